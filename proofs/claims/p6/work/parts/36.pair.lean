/-! ===== class and reference side by side ===== -/
set_option maxRecDepth 100000 in
set_option maxHeartbeats 4000000 in
theorem s_84u {sc : List Int32} {d P Q : Nat} {c : ME} {Z : AR → Prop} (hI : Iv 0 (-1) P Q c)  (K : ∀ (c2 : ME) (y : Int), Iv 0 (-1) P Q c2 → (∀ (a : Nat) (j : Int), ¬ (a = 38 ∨ a = 40 ∨ (a = 3 ∧ j = 3) ∨ (a = 3 ∧ j = 4) ∨ (a = 0 ∧ j = 11)) → c2 a j = c a j) → (-2147483648) ≤ y ∧ y ≤ 2147483647 → ((c 1 4 < 0) ∨ (c 1 4 > 0) ∨ (y = c P 0)) → ((c2 3 3 = 0 ∧ c2 3 4 = 0 ∧ c2 0 11 = 0)) → Z (.inl (some (vi y)), Wd P Q P P c2, 0, 0)) : Wp sc (d + 13) 84 47 [(0, .ref 0)] [] (Wd P Q Q Q c) 0 0 Z := by
  have hP := iv_P hI
  have hQ := iv_Q hI
  refine q_aload_n rfl rfl ?_
  refine v_gr (t := 37) rfl rfl rfl (by decide) rfl ?_
  refine q_aload_n rfl rfl ?_
  refine v_gr (t := P) rfl rfl rfl (by decide) rfl ?_
  refine v_cv rfl rfl rfl rfl (by decide) ⟨⟨rfl, rfl⟩, by decide, rfl⟩ (Nat.le_of_ble_eq_true rfl) (Nat.le_of_ble_eq_true rfl) (s_65a hI (fun c_1 hI_2 hF_3 => ?_))
  refine bk_inl ?_
  refine q_aload_n rfl rfl ?_
  refine v_gr (t := 39) rfl rfl rfl (by decide) rfl ?_
  refine q_aload_n rfl rfl ?_
  refine v_gr (t := P) rfl rfl rfl (by decide) rfl ?_
  refine v_cv rfl rfl rfl rfl (by decide) ⟨⟨rfl, rfl⟩, by decide, rfl⟩ (Nat.le_of_ble_eq_true rfl) (Nat.le_of_ble_eq_true rfl) (s_65b hI_2 (fun c_4 hI_5 hF_6 => ?_))
  refine bk_inl ?_
  refine q_aload_n rfl rfl ?_
  refine v_gr (t := 3) rfl rfl rfl (by decide) rfl ?_
  refine v_cv rfl rfl rfl rfl (by decide) ⟨⟨rfl, rfl⟩, by decide, rfl⟩ (Nat.le_of_ble_eq_true rfl) (Nat.le_of_ble_eq_true rfl) (s_22 hI_5 (fun c_7 hI_8 hF_9 h_10 => ?_))
  refine bk_inl ?_
  have h_11 := ir_3_3 hI_8
  have h_12 := ir_3_4 hI_8
  refine q_aload_n rfl rfl ?_
  refine q_iconst rfl ?_
  refine v_pi (z := 11) rfl rfl rfl (by decide) rfl rfl rfl (by decide) ?_
  refine q_aload_n rfl rfl ?_
  refine q_aload_n rfl rfl ?_
  refine v_gr (t := P) rfl rfl rfl (by decide) rfl ?_
  have h_13 := ir_p0_0 hI hP
  have kn_14 : Hid (c_1 P 0 = c P 0) := hF_3 P 0 (fun h => absurd h (np0 hP rfl))
  have kn_15 : Hid (c_4 P 0 = c P 0) := (hF_6 P 0 (fun h => absurd h (np0 hP rfl))).trans (hid kn_14)
  have kn_16 : Hid (c_7 P 0 = c P 0) := (hF_9 P 0 (fun q => q.elim (fun h => absurd h.1 (np0 hP rfl)) (fun h => absurd h.1 (np0 hP rfl)))).trans (hid kn_15)
  refine v_gi (z := 0) (v := c P 0) rfl rfl (ck_p0 hP) (by omega) rfl rfl ((up_c (np0 hP rfl)).trans (hid kn_16)) ?_
  refine v_cv rfl rfl rfl rfl (by decide) ⟨⟨rfl, rfl⟩, by decide, rfl⟩ (Nat.le_of_ble_eq_true rfl) (Nat.le_of_ble_eq_true rfl) ?_
  refine q_aload_n rfl rfl ?_
  refine v_gr (t := 1) rfl rfl rfl (by decide) rfl ?_
  refine v_cv rfl rfl rfl rfl (by decide) ⟨⟨rfl, rfl⟩, by decide, rfl⟩ (Nat.le_of_ble_eq_true rfl) (Nat.le_of_ble_eq_true rfl) ?_
  refine q_aload_n rfl rfl ?_
  have h_17 := ir_1_4 hI
  have kn_18 : Hid (c_1 1 4 = c 1 4) := hF_3 1 4 (fun h => absurd h (nn rfl))
  have kn_19 : Hid (c_4 1 4 = c 1 4) := (hF_6 1 4 (fun h => absurd h (nn rfl))).trans (hid kn_18)
  have kn_20 : Hid (c_7 1 4 = c 1 4) := (hF_9 1 4 (fun q => q.elim (fun h => absurd h.1 (nn rfl)) (fun h => absurd h.1 (nn rfl)))).trans (hid kn_19)
  refine v_gi (z := 4) (v := c 1 4) rfl rfl rfl (by decide) rfl rfl ((up_c (nn rfl)).trans (hid kn_20)) ?_
  by_cases h_21 : c 1 4 ≠ 0
  · refine v_if_ne_t (t := 11) rfl (by decide) (by omega) ?_
    refine q_iconst rfl ?_
    refine v_zret rfl rfl (by decide) ?_
    refine bk_inl ?_
    refine v_if_eq_t (t := 14) rfl (by decide) (by decide) ?_
    refine q_aload_n rfl rfl ?_
    refine v_gr (t := 1) rfl rfl rfl (by decide) rfl ?_
    refine v_gi (z := 4) (v := c 1 4) rfl rfl rfl (by decide) rfl rfl ((up_c (nn rfl)).trans (hid kn_20)) ?_
    refine v_bip rfl (by decide) ?_
    refine v_isub (v := c 1 4 - 10) rfl (by omega) ?_
    refine q_iret rfl rfl ?_
    refine bk_inl ?_
    refine q_iret rfl rfl ?_
    have hI_22 := iw_0_11 (v := 0) hI_8 ⟨by decide, by decide⟩
    have h_23 : (up c_7 0 11 0) 0 11 = 0 := (up_e rfl)
    have h_24 : (up c_7 0 11 0) 3 3 = c_7 3 3 := (up_c (nn rfl))
    have h_25 : (up c_7 0 11 0) 3 4 = c_7 3 4 := (up_c (nn rfl))
    exact K (up c_7 0 11 0) (c 1 4 - 10) hI_22 (fun a j hm => (up_b (Decidable.or_iff_not_imp_left.mpr (fun h1 h2 => hm (Or.inr (Or.inr (Or.inr (Or.inr ⟨Decidable.not_not.mp h1, h2⟩))))))).trans ((hF_9 a j (fun q => q.elim (fun h => hm (Or.inr (Or.inr (Or.inl h)))) (fun h => hm (Or.inr (Or.inr (Or.inr (Or.inl h))))))).trans ((hF_6 a j (fun h => hm (Or.inr (Or.inl h)))).trans (hF_3 a j (fun h => hm (Or.inl h)))))) ⟨by omega, by omega⟩ (by omega) (by omega)
  · refine v_if_ne_f (t := 11) rfl (by decide) (by omega) ?_
    refine q_iconst rfl ?_
    refine q_goto (t := 12) rfl (by decide) ?_
    refine v_zret rfl rfl (by decide) ?_
    refine bk_inl ?_
    refine v_if_eq_f (t := 14) rfl (by decide) (by decide) ?_
    refine q_iload_n rfl rfl ?_
    refine q_goto (t := 24) rfl (by decide) ?_
    refine q_iret rfl rfl ?_
    refine bk_inl ?_
    refine q_iret rfl rfl ?_
    have hI_26 := iw_0_11 (v := 0) hI_8 ⟨by decide, by decide⟩
    have h_27 : (up c_7 0 11 0) 0 11 = 0 := (up_e rfl)
    have h_28 : (up c_7 0 11 0) 3 3 = c_7 3 3 := (up_c (nn rfl))
    have h_29 : (up c_7 0 11 0) 3 4 = c_7 3 4 := (up_c (nn rfl))
    exact K (up c_7 0 11 0) (c P 0) hI_26 (fun a j hm => (up_b (Decidable.or_iff_not_imp_left.mpr (fun h1 h2 => hm (Or.inr (Or.inr (Or.inr (Or.inr ⟨Decidable.not_not.mp h1, h2⟩))))))).trans ((hF_9 a j (fun q => q.elim (fun h => hm (Or.inr (Or.inr (Or.inl h)))) (fun h => hm (Or.inr (Or.inr (Or.inr (Or.inl h))))))).trans ((hF_6 a j (fun h => hm (Or.inr (Or.inl h)))).trans (hF_3 a j (fun h => hm (Or.inl h)))))) ⟨by omega, by omega⟩ (by omega) (by omega)

set_option maxRecDepth 100000 in
set_option maxHeartbeats 4000000 in
theorem L_8 {sc : List Int32} {e eg : Int} {d dh u ug P Q P2 Q2 : Nat} {c m m9 : ME} {a2 yg e1 a9 : Int} {F H : Int → Int} {Z : AR → Prop} (hI : Iv u e P2 Q2 c) (hJ : Iv ug eg P Q m) (hJ9 : Iv ug eg P Q m9) (ha2 : (-1) ≤ a2 ∧ a2 ≤ 9999) (hyg : 0 ≤ yg ∧ yg ≤ 9999) (hg_e1 : m 1 1 = e1) (hr_e1 : c 41 3 = e1) (hg_a9 : m 1 2 = a9) (hF : ∀ j : Int, m 2 j = F j) (hH : ∀ j : Int, c 43 j = H j) (hU : Ub F H) (hRt : Rt m c) (hG : Wp sc (dh + 14) 8 0 [(0, .ref 1), (1, vi a2)] [] (Wd P Q P P m) 0 0 (fun q => q = (.inl (some (vi yg)), Wd P Q P P m9, 0, 0))) (K : ∀ (c2 : ME) (y : Int), Iv u e P2 Q2 c2 → (∀ (a : Nat) (j : Int), ¬ ((a = 41 ∧ j = 4) ∨ (a = 41 ∧ j = 5) ∨ (a = 41 ∧ j = 6)) → c2 a j = c a j) → 0 ≤ y ∧ y ≤ 9999 → (Rt m9 c2) → ((y = yg)) → ((m9 1 4 < 0) ∨ (m9 1 4 > 0) ∨ (m9 1 2 > a9 ∧ m9 1 2 ≤ e1)) → Z (.inl (some (vi y)), Wd P2 Q2 P2 P2 c2, 0, 0)) : Wp sc (d + 14) 160 0 [(0, .ref 41), (1, vi 0), (2, vi a2)] [] (Wd P2 Q2 P2 P2 c) 0 0 Z := by
  have hP := iv_P hJ
  have hQ := iv_Q hJ
  have h_1 := ir_1_1 hJ
  have h_2 := ir_41_3 hI
  have h_3 := ir_1_2 hJ
  refine gh hG ?_
  by_cases hs9 : m 1 4 = 0
  · skip
    have h_4 := ir_1_4 hJ
    have hs8 := (rt_ok hRt hs9).2.2.2
    have h_5 : -2147483648 ≤ (F a9) ∧ (F a9) ≤ 2147483647 := by rw [← hF a9]; exact ir_2 hJ a9
    have h_6 := nx_bd (b := F) (e := e1) (a := a9)
    have h_7 : -2147483648 ≤ (F (nx F e1 a9)) ∧ (F (nx F e1 a9)) ≤ 2147483647 := by rw [← hF (nx F e1 a9)]; exact ir_2 hJ (nx F e1 a9)
    have h_8 := nx_n (b := F) (e := e1) (a := a9)
    have h_9 := dg_bd (b := F) (e := e1) (a := (nx F e1 a9)) (v := 0) (by decide)
    have h_10 := dg_p (b := F) (e := e1) (a := (nx F e1 a9)) (v := 0) (by decide)
    refine f_8 (a1 := a2) (e1 := e1) (a9 := a9) (f9 := 0) (p9 := (-1)) (B := F) (r8 := (nx F e1 a9)) (D8 := (dg F e1 (nx F e1 a9) 0).1) (V8 := (dg F e1 (nx F e1 a9) 0).2) hJ (show (-1) ≤ a2 ∧ a2 ≤ 9999 from by omega) ((hg_e1)) ((hg_a9)) ((hs9)) ((hs8)) (fun j => hF j) rfl rfl rfl (fun c_11 hI_12 hF_13 h_14 hz_15 hz_16 hz_17 => by exfalso; omega) (fun c_18 hI_19 hF_20 h_21 h_22 hz_23 hz_24 hz_25 => ?_) (fun c_26 hI_27 hF_28 h_29 h_30 h_31 hz_32 hz_33 hz_34 => ?_) (fun c_35 hI_36 hF_37 h_38 h_39 h_40 hz_41 hz_42 hz_43 => ?_)
    · skip
      intro hE_44
      have h_45 : yg = 0 := (vi_inj ⟨by omega, by omega⟩ ⟨by omega, by omega⟩ (Option.some.inj (Sum.inl.inj (Prod.mk.inj hE_44).1))).symm
      have hW : Wd P Q P P c_18 = Wd P Q P P m9 := (Prod.mk.inj (Prod.mk.inj hE_44).2).1
      have h_46 := ir_1_4 hJ9
      have h_47 : m9 1 4 = 1 := wd_fv (z := 4) 4 rfl hW rfl rfl rfl rfl (by decide) (hz_24) ⟨by omega, by omega⟩ ⟨by omega, by omega⟩
      have h_48 := ir_1_2 hJ9
      have h_49 : m9 1 2 = (nx F e1 a9) := wd_fv (z := 2) 2 rfl hW rfl rfl rfl rfl (by decide) (hz_23) ⟨by omega, by omega⟩ ⟨by omega, by omega⟩
      have h_50 := ir_1_5 hJ9
      have h_51 : m9 1 5 = (nx F e1 a9) := wd_fv (z := 5) 5 rfl hW rfl rfl rfl rfl (by decide) (hz_25) ⟨by omega, by omega⟩ ⟨by omega, by omega⟩
      have h_52 := ir_41_4 hI
      have h_53 := ir_1_5 hJ
      have h_54 := ir_41_5 hI
      have h_55 := ir_41_6 hI
      have h_56 := rt_ok hRt (by omega)
      have hro_hRt := rt_ok hRt (by omega)
      have h_64 : -2147483648 ≤ (H (nx F e1 a9)) ∧ (H (nx F e1 a9)) ≤ 2147483647 := by rw [← hH (nx F e1 a9)]; exact ir_43 hI (nx F e1 a9)
      have h_65 : (nx F e1 a9) < 600 → (H (nx F e1 a9)) = (F (nx F e1 a9)) % 256 ∧ -128 ≤ (F (nx F e1 a9)) ∧ (F (nx F e1 a9)) ≤ 127 := fun q => hU (nx F e1 a9) (by omega) q
      refine f_160 (a1 := 0) (a2 := a2) (e1 := e1) (a9 := a9) (f9 := (-1)) (k9 := c 41 6) (B := H) (r8 := (nx F e1 a9)) (D8 := (dg F e1 (nx F e1 a9) 0).1) (V8 := (dg F e1 (nx F e1 a9) 0).2) hI (show 0 ≤ 0 ∧ 0 ≤ 1 from by omega) (show (-1) ≤ a2 ∧ a2 ≤ 9999 from by omega) ((hr_e1)) (((hro_hRt.2.2.1).trans ((hg_a9)))) (hro_hRt.2.1) (rfl) (fun j => hH j) ((nx_tr hU (by omega) (by omega)).trans (rfl)) ((congrArg (fun q : Int × Int => q.1) (dg_tr hU (by omega) (by omega))).trans (rfl)) ((congrArg (fun q : Int × Int => q.2) (dg_tr hU (by omega) (by omega))).trans (rfl)) (fun c_57 hI_58 hF_59 h_60 hz_61 hz_62 hz_63 => by exfalso; omega) (fun c_66 hI_67 hF_68 h_69 h_70 hz_71 hz_72 hz_73 => ?_) (fun c_74 hI_75 hF_76 h_77 h_78 h_79 hz_80 hz_81 hz_82 => by exfalso; omega) (fun c_83 hI_84 hF_85 h_86 h_87 h_88 h_89 hz_90 hz_91 hz_92 => by exfalso; omega)
      have h_93 : c_66 41 5 = (nx F e1 a9) := (hz_72)
      have h_94 : c_66 41 4 = (nx F e1 a9) := (hz_71)
      have h_95 : c_66 41 6 = 1 := (hz_73)
      exact K c_66 0 hI_67 (fun a j hm => hF_68 a j (fun q => q.elim (fun h => hm (Or.inl h)) (fun q => q.elim (fun h => hm (Or.inr (Or.inl h))) (fun h => hm (Or.inr (Or.inr h)))))) ⟨by omega, by omega⟩ (by unfold Rt; omega) (by omega) (by omega)
    · skip
      intro hE_96
      have h_97 : yg = 0 := (vi_inj ⟨by omega, by omega⟩ ⟨by omega, by omega⟩ (Option.some.inj (Sum.inl.inj (Prod.mk.inj hE_96).1))).symm
      have hW : Wd P Q P P c_26 = Wd P Q P P m9 := (Prod.mk.inj (Prod.mk.inj hE_96).2).1
      have h_98 := ir_1_4 hJ9
      have h_99 : m9 1 4 = 2 := wd_fv (z := 4) 4 rfl hW rfl rfl rfl rfl (by decide) (hz_33) ⟨by omega, by omega⟩ ⟨by omega, by omega⟩
      have h_100 := ir_1_2 hJ9
      have h_101 : m9 1 2 = (dg F e1 (nx F e1 a9) 0).1 := wd_fv (z := 2) 2 rfl hW rfl rfl rfl rfl (by decide) (hz_32) ⟨by omega, by omega⟩ ⟨by omega, by omega⟩
      have h_102 := ir_1_5 hJ9
      have h_103 : m9 1 5 = (nx F e1 a9) := wd_fv (z := 5) 5 rfl hW rfl rfl rfl rfl (by decide) (hz_34) ⟨by omega, by omega⟩ ⟨by omega, by omega⟩
      have h_104 := ir_41_4 hI
      have h_105 := ir_1_5 hJ
      have h_106 := ir_41_5 hI
      have h_107 := ir_41_6 hI
      have h_108 := rt_ok hRt (by omega)
      have hro_hRt := rt_ok hRt (by omega)
      have h_116 : -2147483648 ≤ (H (nx F e1 a9)) ∧ (H (nx F e1 a9)) ≤ 2147483647 := by rw [← hH (nx F e1 a9)]; exact ir_43 hI (nx F e1 a9)
      have h_117 := hU (nx F e1 a9) (by omega) (by omega)
      refine f_160 (a1 := 0) (a2 := a2) (e1 := e1) (a9 := a9) (f9 := (-1)) (k9 := c 41 6) (B := H) (r8 := (nx F e1 a9)) (D8 := (dg F e1 (nx F e1 a9) 0).1) (V8 := (dg F e1 (nx F e1 a9) 0).2) hI (show 0 ≤ 0 ∧ 0 ≤ 1 from by omega) (show (-1) ≤ a2 ∧ a2 ≤ 9999 from by omega) ((hr_e1)) (((hro_hRt.2.2.1).trans ((hg_a9)))) (hro_hRt.2.1) (rfl) (fun j => hH j) ((nx_tr hU (by omega) (by omega)).trans (rfl)) ((congrArg (fun q : Int × Int => q.1) (dg_tr hU (by omega) (by omega))).trans (rfl)) ((congrArg (fun q : Int × Int => q.2) (dg_tr hU (by omega) (by omega))).trans (rfl)) (fun c_109 hI_110 hF_111 h_112 hz_113 hz_114 hz_115 => by exfalso; omega) (fun c_118 hI_119 hF_120 h_121 h_122 hz_123 hz_124 hz_125 => by exfalso; omega) (fun c_126 hI_127 hF_128 h_129 h_130 h_131 hz_132 hz_133 hz_134 => ?_) (fun c_135 hI_136 hF_137 h_138 h_139 h_140 h_141 hz_142 hz_143 hz_144 => by exfalso; omega)
      have h_145 : c_126 41 5 = (nx F e1 a9) := (hz_133)
      have h_146 : c_126 41 4 = (dg F e1 (nx F e1 a9) 0).1 := (hz_132)
      have h_147 : c_126 41 6 = 2 := (hz_134)
      exact K c_126 0 hI_127 (fun a j hm => hF_128 a j (fun q => q.elim (fun h => hm (Or.inl h)) (fun q => q.elim (fun h => hm (Or.inr (Or.inl h))) (fun h => hm (Or.inr (Or.inr h)))))) ⟨by omega, by omega⟩ (by unfold Rt; omega) (by omega) (by omega)
    · skip
      intro hE_148
      have h_149 : yg = (dg F e1 (nx F e1 a9) 0).2 := (vi_inj ⟨by omega, by omega⟩ ⟨by omega, by omega⟩ (Option.some.inj (Sum.inl.inj (Prod.mk.inj hE_148).1))).symm
      have hW : Wd P Q P P c_35 = Wd P Q P P m9 := (Prod.mk.inj (Prod.mk.inj hE_148).2).1
      have h_150 := ir_1_4 hJ9
      have h_151 : m9 1 4 = 0 := wd_fv (z := 4) 4 rfl hW rfl rfl rfl rfl (by decide) (hz_42) ⟨by omega, by omega⟩ ⟨by omega, by omega⟩
      have h_152 := ir_1_2 hJ9
      have h_153 : m9 1 2 = (dg F e1 (nx F e1 a9) 0).1 := wd_fv (z := 2) 2 rfl hW rfl rfl rfl rfl (by decide) (hz_41) ⟨by omega, by omega⟩ ⟨by omega, by omega⟩
      have h_154 := ir_1_5 hJ9
      have h_155 : m9 1 5 = (-1) := wd_fv (z := 5) 5 rfl hW rfl rfl rfl rfl (by decide) (hz_43) ⟨by omega, by omega⟩ ⟨by omega, by omega⟩
      have h_156 := ir_41_4 hI
      have h_157 := ir_1_5 hJ
      have h_158 := ir_41_5 hI
      have h_159 := ir_41_6 hI
      have h_160 := rt_ok hRt (by omega)
      have hro_hRt := rt_ok hRt (by omega)
      have h_168 : -2147483648 ≤ (H (nx F e1 a9)) ∧ (H (nx F e1 a9)) ≤ 2147483647 := by rw [← hH (nx F e1 a9)]; exact ir_43 hI (nx F e1 a9)
      have h_169 := hU (nx F e1 a9) (by omega) (by omega)
      refine f_160 (a1 := 0) (a2 := a2) (e1 := e1) (a9 := a9) (f9 := (-1)) (k9 := c 41 6) (B := H) (r8 := (nx F e1 a9)) (D8 := (dg F e1 (nx F e1 a9) 0).1) (V8 := (dg F e1 (nx F e1 a9) 0).2) hI (show 0 ≤ 0 ∧ 0 ≤ 1 from by omega) (show (-1) ≤ a2 ∧ a2 ≤ 9999 from by omega) ((hr_e1)) (((hro_hRt.2.2.1).trans ((hg_a9)))) (hro_hRt.2.1) (rfl) (fun j => hH j) ((nx_tr hU (by omega) (by omega)).trans (rfl)) ((congrArg (fun q : Int × Int => q.1) (dg_tr hU (by omega) (by omega))).trans (rfl)) ((congrArg (fun q : Int × Int => q.2) (dg_tr hU (by omega) (by omega))).trans (rfl)) (fun c_161 hI_162 hF_163 h_164 hz_165 hz_166 hz_167 => by exfalso; omega) (fun c_170 hI_171 hF_172 h_173 h_174 hz_175 hz_176 hz_177 => by exfalso; omega) (fun c_178 hI_179 hF_180 h_181 h_182 h_183 hz_184 hz_185 hz_186 => by exfalso; omega) (fun c_187 hI_188 hF_189 h_190 h_191 h_192 h_193 hz_194 hz_195 hz_196 => ?_)
      have h_197 : c_187 41 5 = (-1) := (hz_195)
      have h_198 : c_187 41 4 = (dg F e1 (nx F e1 a9) 0).1 := (hz_194)
      have h_199 : c_187 41 6 = c 41 6 := (hz_196)
      exact K c_187 ((dg F e1 (nx F e1 a9) 0).2) hI_188 (fun a j hm => hF_189 a j (fun q => q.elim (fun h => hm (Or.inl h)) (fun q => q.elim (fun h => hm (Or.inr (Or.inl h))) (fun h => hm (Or.inr (Or.inr h)))))) ⟨by omega, by omega⟩ (by unfold Rt; omega) (by omega) (by omega)
  · skip
    have h_200 := ir_1_4 hJ
    have h_201 := ir_1_5 hJ
    have h_202 : -2147483648 ≤ (F a9) ∧ (F a9) ≤ 2147483647 := by rw [← hF a9]; exact ir_2 hJ a9
    have h_203 := nx_bd (b := F) (e := e1) (a := a9)
    have h_204 : -2147483648 ≤ (F (nx F e1 a9)) ∧ (F (nx F e1 a9)) ≤ 2147483647 := by rw [← hF (nx F e1 a9)]; exact ir_2 hJ (nx F e1 a9)
    have h_205 := nx_n (b := F) (e := e1) (a := a9)
    have h_206 := dg_bd (b := F) (e := e1) (a := (nx F e1 a9)) (v := 0) (by decide)
    have h_207 := dg_p (b := F) (e := e1) (a := (nx F e1 a9)) (v := 0) (by decide)
    refine f_8 (a1 := a2) (e1 := e1) (a9 := a9) (f9 := m 1 4) (p9 := m 1 5) (B := F) (r8 := (nx F e1 a9)) (D8 := (dg F e1 (nx F e1 a9) 0).1) (V8 := (dg F e1 (nx F e1 a9) 0).2) hJ (show (-1) ≤ a2 ∧ a2 ≤ 9999 from by omega) ((hg_e1)) ((hg_a9)) (rfl) (rfl) (fun j => hF j) rfl rfl rfl (fun c_208 hI_209 hF_210 h_211 hz_212 hz_213 hz_214 => ?_) (fun c_215 hI_216 hF_217 h_218 h_219 hz_220 hz_221 hz_222 => by exfalso; omega) (fun c_223 hI_224 hF_225 h_226 h_227 h_228 hz_229 hz_230 hz_231 => by exfalso; omega) (fun c_232 hI_233 hF_234 h_235 h_236 h_237 hz_238 hz_239 hz_240 => by exfalso; omega)
    intro hE_241
    have h_242 : yg = 0 := (vi_inj ⟨by omega, by omega⟩ ⟨by omega, by omega⟩ (Option.some.inj (Sum.inl.inj (Prod.mk.inj hE_241).1))).symm
    have hW : Wd P Q P P c_208 = Wd P Q P P m9 := (Prod.mk.inj (Prod.mk.inj hE_241).2).1
    have h_243 := ir_1_4 hJ9
    have h_244 : m9 1 4 = m 1 4 := wd_fv (z := 4) 4 rfl hW rfl rfl rfl rfl (by decide) (hz_213) ⟨by omega, by omega⟩ ⟨by omega, by omega⟩
    have h_245 := ir_1_2 hJ9
    have h_246 : m9 1 2 = a9 := wd_fv (z := 2) 2 rfl hW rfl rfl rfl rfl (by decide) (hz_212) ⟨by omega, by omega⟩ ⟨by omega, by omega⟩
    have h_247 := ir_1_5 hJ9
    have h_248 : m9 1 5 = m 1 5 := wd_fv (z := 5) 5 rfl hW rfl rfl rfl rfl (by decide) (hz_214) ⟨by omega, by omega⟩ ⟨by omega, by omega⟩
    have h_249 := ir_41_4 hI
    have h_250 := ir_41_5 hI
    have h_251 := ir_41_6 hI
    have h_252 := rt_bad hRt (by omega)
    have hrb_hRt := rt_bad hRt (by omega)
    have h_253 : -2147483648 ≤ (F (c 41 4)) ∧ (F (c 41 4)) ≤ 2147483647 := by rw [← hF (c 41 4)]; exact ir_2 hJ (c 41 4)
    have h_254 := nx_bd (b := F) (e := e1) (a := c 41 4)
    have h_255 : -2147483648 ≤ (F (nx F e1 (c 41 4))) ∧ (F (nx F e1 (c 41 4))) ≤ 2147483647 := by rw [← hF (nx F e1 (c 41 4))]; exact ir_2 hJ (nx F e1 (c 41 4))
    have h_256 := nx_n (b := F) (e := e1) (a := c 41 4)
    have h_257 := dg_bd (b := F) (e := e1) (a := (nx F e1 (c 41 4))) (v := 0) (by decide)
    have h_258 := dg_p (b := F) (e := e1) (a := (nx F e1 (c 41 4))) (v := 0) (by decide)
    have h_266 : -2147483648 ≤ (H (nx F e1 (c 41 4))) ∧ (H (nx F e1 (c 41 4))) ≤ 2147483647 := by rw [← hH (nx F e1 (c 41 4))]; exact ir_43 hI (nx F e1 (c 41 4))
    have h_267 : (nx F e1 (c 41 4)) < 600 → (H (nx F e1 (c 41 4))) = (F (nx F e1 (c 41 4))) % 256 ∧ -128 ≤ (F (nx F e1 (c 41 4))) ∧ (F (nx F e1 (c 41 4))) ≤ 127 := fun q => hU (nx F e1 (c 41 4)) (by omega) q
    refine f_160 (a1 := 0) (a2 := a2) (e1 := e1) (a9 := c 41 4) (f9 := m 1 5) (k9 := m 1 4) (B := H) (r8 := (nx F e1 (c 41 4))) (D8 := (dg F e1 (nx F e1 (c 41 4)) 0).1) (V8 := (dg F e1 (nx F e1 (c 41 4)) 0).2) hI (show 0 ≤ 0 ∧ 0 ≤ 1 from by omega) (show (-1) ≤ a2 ∧ a2 ≤ 9999 from by omega) ((hr_e1)) (rfl) (hrb_hRt.2.1) (hrb_hRt.2.2.2) (fun j => hH j) ((nx_tr hU (by omega) (by omega)).trans (rfl)) ((congrArg (fun q : Int × Int => q.1) (dg_tr hU (by omega) (by omega))).trans (rfl)) ((congrArg (fun q : Int × Int => q.2) (dg_tr hU (by omega) (by omega))).trans (rfl)) (fun c_259 hI_260 hF_261 h_262 hz_263 hz_264 hz_265 => ?_) (fun c_268 hI_269 hF_270 h_271 h_272 hz_273 hz_274 hz_275 => by exfalso; omega) (fun c_276 hI_277 hF_278 h_279 h_280 h_281 hz_282 hz_283 hz_284 => by exfalso; omega) (fun c_285 hI_286 hF_287 h_288 h_289 h_290 h_291 hz_292 hz_293 hz_294 => by exfalso; omega)
    have h_295 : c_259 41 5 = m 1 5 := (hz_264)
    have h_296 : c_259 41 4 = c 41 4 := (hz_263)
    have h_297 : c_259 41 6 = m 1 4 := (hz_265)
    exact K c_259 0 hI_260 (fun a j hm => hF_261 a j (fun q => q.elim (fun h => hm (Or.inl h)) (fun q => q.elim (fun h => hm (Or.inr (Or.inl h))) (fun h => hm (Or.inr (Or.inr h)))))) ⟨by omega, by omega⟩ (by unfold Rt; omega) (by omega) (by omega)

set_option maxRecDepth 100000 in
set_option maxHeartbeats 4000000 in
theorem L_11_9 {sc : List Int32} {e eg : Int} {d dh u ug P Q P2 Q2 : Nat} {c m m9 : ME} {e1 a9 : Int} {F H : Int → Int} {Z : AR → Prop} (hI : Iv u e P2 Q2 c) (hJ : Iv ug eg P Q m) (hJ9 : Iv ug eg P Q m9) (hg_e1 : m 1 1 = e1) (hr_e1 : c 41 3 = e1) (hg_a9 : m 1 2 = a9) (hF : ∀ j : Int, m 2 j = F j) (hH : ∀ j : Int, c 43 j = H j) (hU : Ub F H) (hRt : Rt m c) (hG : Wp sc (dh + 14) 11 0 [(0, .ref 1), (1, .ref (a_SB + 9))] [] (Wd P Q P P m) 0 0 (fun q => q = (.inl (none), Wd P Q P P m9, 0, 0))) (K : ∀ (c2 : ME), Iv u e P2 Q2 c2 → (∀ (a : Nat) (j : Int), ¬ ((a = 41 ∧ j = 4) ∨ (a = 41 ∧ j = 5) ∨ (a = 41 ∧ j = 6)) → c2 a j = c a j) → (Rt m9 c2) → ((m9 1 4 < 0) ∨ (m9 1 4 > 0) ∨ (m9 1 2 > a9 ∧ m9 1 2 ≤ e1)) → Z (.inl (none), Wd P2 Q2 P2 P2 c2, 0, 0)) : Wp sc (d + 14) 161 0 [(0, .ref 41), (1, vi 59)] [] (Wd P2 Q2 P2 P2 c) 0 0 Z := by
  have hP := iv_P hJ
  have hQ := iv_Q hJ
  have h_1 := ir_1_1 hJ
  have h_2 := ir_41_3 hI
  have h_3 := ir_1_2 hJ
  refine gh hG ?_
  by_cases hs9 : m 1 4 = 0
  · skip
    have h_4 := ir_1_4 hJ
    have hs8 := (rt_ok hRt hs9).2.2.2
    refine q_aload_n rfl rfl ?_
    refine v_cv rfl rfl rfl rfl (by decide) ⟨⟨rfl, rfl⟩, by decide, rfl⟩ (Nat.le_of_ble_eq_true rfl) (Nat.le_of_ble_eq_true rfl) ?_
    refine q_aload_n rfl rfl ?_
    refine v_gi (z := 4) (v := 0) rfl rfl rfl (by decide) rfl rfl (hs9) ?_
    refine v_if_ne_f (t := 11) rfl (by decide) (by decide) ?_
    refine q_iconst rfl ?_
    refine q_goto (t := 12) rfl (by decide) ?_
    refine v_zret rfl rfl (by decide) ?_
    refine bk_inl ?_
    refine v_if_eq_f (t := 25) rfl (by decide) (by decide) ?_
    refine q_aload_n rfl rfl ?_
    refine q_aload_n rfl rfl ?_
    refine v_cv rfl rfl rfl rfl (by decide) ⟨⟨rfl, rfl⟩, by decide, rfl⟩ (Nat.le_of_ble_eq_true rfl) (Nat.le_of_ble_eq_true rfl) ?_
    refine q_aload_n rfl rfl ?_
    have h_5 : -2147483648 ≤ (F a9) ∧ (F a9) ≤ 2147483647 := by rw [← hF a9]; exact ir_2 hJ a9
    have h_6 := nx_bd (b := F) (e := e1) (a := a9)
    have h_7 : -2147483648 ≤ (F (nx F e1 a9)) ∧ (F (nx F e1 a9)) ≤ 2147483647 := by rw [← hF (nx F e1 a9)]; exact ir_2 hJ (nx F e1 a9)
    have h_8 := nx_n (b := F) (e := e1) (a := a9)
    refine v_cv rfl rfl rfl rfl (by decide) ⟨⟨rfl, rfl⟩, by decide, rfl⟩ (Nat.le_of_ble_eq_true rfl) (Nat.le_of_ble_eq_true rfl) (f_3 (e1 := e1) (a9 := a9) (B := F) (r8 := (nx F e1 a9)) hJ ((hg_e1)) ((hg_a9)) (fun j => hF j) rfl (fun c_9 hI_10 hF_11 hz_12 => ?_))
    refine bk_inl ?_
    refine q_istore_n rfl (by decide) ?_
    refine q_iconst rfl ?_
    refine q_istore_n rfl (by decide) ?_
    refine q_iload_n rfl rfl ?_
    refine q_aload_n rfl rfl ?_
    refine v_sln 1 rfl rfl (by omega) (Nat.le_of_ble_eq_true rfl) (by decide) (by decide) ?_
    refine v_ic_ge_f (t := 55) rfl (by decide) (by decide) ?_
    refine q_iload_n rfl rfl ?_
    refine q_aload_n rfl rfl ?_
    have kn_13 : Hid (c_9 1 1 = e1) := (hF_11 1 1 (fun h => absurd h.2 (ni rfl))).trans (hg_e1)
    refine v_gi (z := 1) (v := e1) rfl rfl rfl (by decide) rfl rfl (hid kn_13) ?_
    by_cases h_14 : (nx F e1 a9) ≥ e1
    · refine v_ic_ge_t (t := 55) rfl (by decide) (by omega) ?_
      refine q_iconst rfl ?_
      refine q_iret rfl rfl ?_
      refine bk_inl ?_
      refine q_iconst rfl ?_
      refine v_ic_ne_f (t := 25) rfl (by decide) (by decide) ?_
      refine q_aload_n rfl rfl ?_
      refine q_iconst rfl ?_
      refine q_aload_n rfl rfl ?_
      refine v_gi (z := 2) (v := (nx F e1 a9)) rfl rfl rfl (by decide) rfl rfl (hz_12) ?_
      refine v_cv rfl rfl rfl rfl (by decide) ⟨⟨rfl, rfl⟩, by decide, rfl⟩ (Nat.le_of_ble_eq_true rfl) (Nat.le_of_ble_eq_true rfl) ?_
      refine q_aload_n rfl rfl ?_
      have kn_15 : Hid (c_9 1 4 = 0) := (hF_11 1 4 (fun h => absurd h.2 (ni rfl))).trans (hs9)
      refine v_gi (z := 4) (v := 0) rfl rfl rfl (by decide) rfl rfl (hid kn_15) ?_
      refine v_if_ne_f (t := 17) rfl (by decide) (by decide) ?_
      refine q_aload_n rfl rfl ?_
      refine q_iload_n rfl rfl ?_
      refine v_pi (z := 4) rfl rfl rfl (by decide) rfl rfl rfl (by decide) ?_
      refine q_aload_n rfl rfl ?_
      refine q_iload_n rfl rfl ?_
      refine v_pi (z := 5) rfl rfl rfl (by decide) rfl rfl rfl (by decide) ?_
      refine q_vret rfl rfl ?_
      refine bk_inl ?_
      refine q_vret rfl rfl ?_
      have hI_16 := iw_1_4 (v := 1) hI_10 ⟨by decide, by decide⟩
      have hI_17 := iw_1_5 (v := (nx F e1 a9)) hI_16 ⟨by omega, by omega⟩
      intro hE_18
      have hW : Wd P Q P P (up (up c_9 1 4 1) 1 5 (nx F e1 a9)) = Wd P Q P P m9 := (Prod.mk.inj (Prod.mk.inj hE_18).2).1
      have h_19 := ir_1_4 hJ9
      have h_20 : m9 1 4 = 1 := wd_fv (z := 4) 4 rfl hW rfl rfl rfl rfl (by decide) ((up_n (by decide)).trans (up_e rfl)) ⟨by omega, by omega⟩ ⟨by omega, by omega⟩
      have h_21 := ir_1_2 hJ9
      have h_22 : m9 1 2 = (nx F e1 a9) := wd_fv (z := 2) 2 rfl hW rfl rfl rfl rfl (by decide) ((up_n (by decide)).trans ((up_n (by decide)).trans (hz_12))) ⟨by omega, by omega⟩ ⟨by omega, by omega⟩
      have h_23 := ir_1_5 hJ9
      have h_24 : m9 1 5 = (nx F e1 a9) := wd_fv (z := 5) 5 rfl hW rfl rfl rfl rfl (by decide) (up_e rfl) ⟨by omega, by omega⟩ ⟨by omega, by omega⟩
      refine q_aload_n rfl rfl ?_
      refine v_cv rfl rfl rfl rfl (by decide) ⟨⟨rfl, rfl⟩, by decide, rfl⟩ (Nat.le_of_ble_eq_true rfl) (Nat.le_of_ble_eq_true rfl) ?_
      refine q_aload_n rfl rfl ?_
      have h_25 := ir_41_5 hI
      have h_26 := ir_1_5 hJ
      have h_27 := ir_41_4 hI
      have h_28 := ir_41_6 hI
      have h_29 := rt_ok hRt (by omega)
      have hro_hRt := rt_ok hRt (by omega)
      refine v_gi (z := 5) (v := (-1)) rfl rfl rfl (by decide) rfl rfl hro_hRt.2.1 ?_
      refine q_iconst rfl ?_
      refine v_ic_ne_f (t := 12) rfl (by decide) (by decide) ?_
      refine q_iconst rfl ?_
      refine q_goto (t := 13) rfl (by decide) ?_
      refine v_zret rfl rfl (by decide) ?_
      refine bk_inl ?_
      refine v_if_eq_f (t := 24) rfl (by decide) (by decide) ?_
      refine q_aload_n rfl rfl ?_
      have h_30 : -2147483648 ≤ (H (nx F e1 a9)) ∧ (H (nx F e1 a9)) ≤ 2147483647 := by rw [← hH (nx F e1 a9)]; exact ir_43 hI (nx F e1 a9)
      have h_31 : (nx F e1 a9) < 600 → (H (nx F e1 a9)) = (F (nx F e1 a9)) % 256 ∧ -128 ≤ (F (nx F e1 a9)) ∧ (F (nx F e1 a9)) ≤ 127 := fun q => hU (nx F e1 a9) (by omega) q
      have h_32 := hb_or (b := H) (e := e1) (r := (nx F e1 a9))
      have h_33 := hb_bd (b := H) (e := e1) (r := (nx F e1 a9)) (lo := -2147483648) (hi := 2147483647) ⟨by omega, by omega⟩ (by decide)
      refine v_cv rfl rfl rfl rfl (by decide) ⟨⟨rfl, rfl⟩, by decide, rfl⟩ (Nat.le_of_ble_eq_true rfl) (Nat.le_of_ble_eq_true rfl) (f_154 (e1 := e1) (a9 := a9) (B := H) (r8 := (nx F e1 a9)) (r := (hb H e1 (nx F e1 a9))) hI ((hr_e1)) (((hro_hRt.2.2.1).trans ((hg_a9)))) (fun j => hH j) ((nx_tr hU (by omega) (by omega)).trans (rfl)) rfl (fun c_34 hI_35 hF_36 h_37 => ?_))
      refine bk_inl ?_
      refine q_iload_n rfl rfl ?_
      refine v_ic_eq_f (t := 24) rfl (by decide) (by omega) ?_
      refine q_aload_n rfl rfl ?_
      refine q_iconst rfl ?_
      refine q_aload_n rfl rfl ?_
      refine v_gi (z := 4) (v := (nx F e1 a9)) rfl rfl rfl (by decide) rfl rfl (h_37) ?_
      refine v_cv rfl rfl rfl rfl (by decide) ⟨⟨rfl, rfl⟩, by decide, rfl⟩ (Nat.le_of_ble_eq_true rfl) (Nat.le_of_ble_eq_true rfl) ?_
      refine q_aload_n rfl rfl ?_
      have kn_38 : Hid (c_34 41 5 = (-1)) := (hF_36 41 5 (fun h => absurd h.2 (ni rfl))).trans hro_hRt.2.1
      refine v_gi (z := 5) (v := (-1)) rfl rfl rfl (by decide) rfl rfl (hid kn_38) ?_
      refine q_iconst rfl ?_
      refine v_ic_eq_t (t := 9) rfl (by decide) (by decide) ?_
      refine q_aload_n rfl rfl ?_
      refine q_iload_n rfl rfl ?_
      refine v_pi (z := 5) rfl rfl rfl (by decide) rfl rfl rfl (by decide) ?_
      refine q_aload_n rfl rfl ?_
      refine q_iload_n rfl rfl ?_
      refine v_pi (z := 6) rfl rfl rfl (by decide) rfl rfl rfl (by decide) ?_
      refine q_vret rfl rfl ?_
      refine bk_inl ?_
      refine q_aload_n rfl rfl ?_
      refine v_cv rfl rfl rfl rfl (by decide) ⟨⟨rfl, rfl⟩, by decide, rfl⟩ (Nat.le_of_ble_eq_true rfl) (Nat.le_of_ble_eq_true rfl) ?_
      refine q_aload_n rfl rfl ?_
      refine v_gi (z := 5) (v := (nx F e1 a9)) rfl rfl rfl (by decide) rfl rfl ((up_n (by decide)).trans (up_e rfl)) ?_
      refine q_iconst rfl ?_
      refine v_ic_ne_t (t := 12) rfl (by decide) (by omega) ?_
      refine q_iconst rfl ?_
      refine v_zret rfl rfl (by decide) ?_
      refine bk_inl ?_
      refine v_if_eq_t (t := 41) rfl (by decide) (by decide) ?_
      refine q_vret rfl rfl ?_
      have hI_39 := iw_41_5 (v := (nx F e1 a9)) hI_35 ⟨by omega, by omega⟩
      have hI_40 := iw_41_6 (v := 1) hI_39 ⟨by decide, by decide⟩
      have h_41 : (up (up c_34 41 5 (nx F e1 a9)) 41 6 1) 41 5 = (nx F e1 a9) := ((up_n (by decide)).trans (up_e rfl))
      have h_42 : (up (up c_34 41 5 (nx F e1 a9)) 41 6 1) 41 4 = (nx F e1 a9) := ((up_n (by decide)).trans ((up_n (by decide)).trans (h_37)))
      have h_43 : (up (up c_34 41 5 (nx F e1 a9)) 41 6 1) 41 6 = 1 := (up_e rfl)
      exact K (up (up c_34 41 5 (nx F e1 a9)) 41 6 1)  hI_40 (fun a j hm => (up_b (Decidable.or_iff_not_imp_left.mpr (fun h1 h2 => hm (Or.inr (Or.inr ⟨Decidable.not_not.mp h1, h2⟩))))).trans ((up_b (Decidable.or_iff_not_imp_left.mpr (fun h1 h2 => hm (Or.inr (Or.inl ⟨Decidable.not_not.mp h1, h2⟩))))).trans (hF_36 a j (fun h => hm (Or.inl h))))) (by unfold Rt; omega) (by omega)
    · refine v_ic_ge_f (t := 55) rfl (by decide) (by omega) ?_
      refine q_aload_n rfl rfl ?_
      refine v_gr (t := 2) rfl rfl rfl (by decide) rfl ?_
      refine q_iload_n rfl rfl ?_
      have kn_44 : Hid (c_9 2 (nx F e1 a9) = (F (nx F e1 a9))) := (hF_11 2 (nx F e1 a9) (fun h => absurd h.1 (nn rfl))).trans (hF (nx F e1 a9))
      refine v_ba (v := (F (nx F e1 a9))) rfl rfl (by decide) (by decide) (by omega) (hid kn_44) ?_
      refine q_aload_n rfl rfl ?_
      refine q_iload_n rfl rfl ?_
      refine v_sch 59 rfl rfl (by omega) (Nat.le_of_ble_eq_true rfl) (by decide) (by decide) (by decide) ?_
      by_cases h_45 : (F (nx F e1 a9)) ≠ 59
      · refine v_ic_ne_t (t := 49) rfl (by decide) (by omega) ?_
        refine v_iinc (v := 1) rfl rfl (by decide) (by decide) ?_
        refine q_goto (t := 7) rfl (by decide) ?_
        refine q_iload_n rfl rfl ?_
        refine q_aload_n rfl rfl ?_
        refine v_sln 1 rfl rfl (by omega) (Nat.le_of_ble_eq_true rfl) (by decide) (by decide) ?_
        refine v_ic_ge_t (t := 55) rfl (by decide) (by decide) ?_
        refine q_iconst rfl ?_
        refine q_iret rfl rfl ?_
        refine bk_inl ?_
        refine q_iconst rfl ?_
        refine v_ic_ne_f (t := 25) rfl (by decide) (by decide) ?_
        refine q_aload_n rfl rfl ?_
        refine q_iconst rfl ?_
        refine q_aload_n rfl rfl ?_
        refine v_gi (z := 2) (v := (nx F e1 a9)) rfl rfl rfl (by decide) rfl rfl (hz_12) ?_
        refine v_cv rfl rfl rfl rfl (by decide) ⟨⟨rfl, rfl⟩, by decide, rfl⟩ (Nat.le_of_ble_eq_true rfl) (Nat.le_of_ble_eq_true rfl) ?_
        refine q_aload_n rfl rfl ?_
        have kn_46 : Hid (c_9 1 4 = 0) := (hF_11 1 4 (fun h => absurd h.2 (ni rfl))).trans (hs9)
        refine v_gi (z := 4) (v := 0) rfl rfl rfl (by decide) rfl rfl (hid kn_46) ?_
        refine v_if_ne_f (t := 17) rfl (by decide) (by decide) ?_
        refine q_aload_n rfl rfl ?_
        refine q_iload_n rfl rfl ?_
        refine v_pi (z := 4) rfl rfl rfl (by decide) rfl rfl rfl (by decide) ?_
        refine q_aload_n rfl rfl ?_
        refine q_iload_n rfl rfl ?_
        refine v_pi (z := 5) rfl rfl rfl (by decide) rfl rfl rfl (by decide) ?_
        refine q_vret rfl rfl ?_
        refine bk_inl ?_
        refine q_vret rfl rfl ?_
        have hI_47 := iw_1_4 (v := 1) hI_10 ⟨by decide, by decide⟩
        have hI_48 := iw_1_5 (v := (nx F e1 a9)) hI_47 ⟨by omega, by omega⟩
        intro hE_49
        have hW : Wd P Q P P (up (up c_9 1 4 1) 1 5 (nx F e1 a9)) = Wd P Q P P m9 := (Prod.mk.inj (Prod.mk.inj hE_49).2).1
        have h_50 := ir_1_4 hJ9
        have h_51 : m9 1 4 = 1 := wd_fv (z := 4) 4 rfl hW rfl rfl rfl rfl (by decide) ((up_n (by decide)).trans (up_e rfl)) ⟨by omega, by omega⟩ ⟨by omega, by omega⟩
        have h_52 := ir_1_2 hJ9
        have h_53 : m9 1 2 = (nx F e1 a9) := wd_fv (z := 2) 2 rfl hW rfl rfl rfl rfl (by decide) ((up_n (by decide)).trans ((up_n (by decide)).trans (hz_12))) ⟨by omega, by omega⟩ ⟨by omega, by omega⟩
        have h_54 := ir_1_5 hJ9
        have h_55 : m9 1 5 = (nx F e1 a9) := wd_fv (z := 5) 5 rfl hW rfl rfl rfl rfl (by decide) (up_e rfl) ⟨by omega, by omega⟩ ⟨by omega, by omega⟩
        refine q_aload_n rfl rfl ?_
        refine v_cv rfl rfl rfl rfl (by decide) ⟨⟨rfl, rfl⟩, by decide, rfl⟩ (Nat.le_of_ble_eq_true rfl) (Nat.le_of_ble_eq_true rfl) ?_
        refine q_aload_n rfl rfl ?_
        have h_56 := ir_41_5 hI
        have h_57 := ir_1_5 hJ
        have h_58 := ir_41_4 hI
        have h_59 := ir_41_6 hI
        have h_60 := rt_ok hRt (by omega)
        have hro_hRt := rt_ok hRt (by omega)
        refine v_gi (z := 5) (v := (-1)) rfl rfl rfl (by decide) rfl rfl hro_hRt.2.1 ?_
        refine q_iconst rfl ?_
        refine v_ic_ne_f (t := 12) rfl (by decide) (by decide) ?_
        refine q_iconst rfl ?_
        refine q_goto (t := 13) rfl (by decide) ?_
        refine v_zret rfl rfl (by decide) ?_
        refine bk_inl ?_
        refine v_if_eq_f (t := 24) rfl (by decide) (by decide) ?_
        refine q_aload_n rfl rfl ?_
        have h_61 : -2147483648 ≤ (H (nx F e1 a9)) ∧ (H (nx F e1 a9)) ≤ 2147483647 := by rw [← hH (nx F e1 a9)]; exact ir_43 hI (nx F e1 a9)
        have h_62 := hU (nx F e1 a9) (by omega) (by omega)
        have h_63 := hb_or (b := H) (e := e1) (r := (nx F e1 a9))
        have h_64 := hb_bd (b := H) (e := e1) (r := (nx F e1 a9)) (lo := -2147483648) (hi := 2147483647) ⟨by omega, by omega⟩ (by decide)
        refine v_cv rfl rfl rfl rfl (by decide) ⟨⟨rfl, rfl⟩, by decide, rfl⟩ (Nat.le_of_ble_eq_true rfl) (Nat.le_of_ble_eq_true rfl) (f_154 (e1 := e1) (a9 := a9) (B := H) (r8 := (nx F e1 a9)) (r := (hb H e1 (nx F e1 a9))) hI ((hr_e1)) (((hro_hRt.2.2.1).trans ((hg_a9)))) (fun j => hH j) ((nx_tr hU (by omega) (by omega)).trans (rfl)) rfl (fun c_65 hI_66 hF_67 h_68 => ?_))
        refine bk_inl ?_
        refine q_iload_n rfl rfl ?_
        refine v_ic_eq_f (t := 24) rfl (by decide) (by omega) ?_
        refine q_aload_n rfl rfl ?_
        refine q_iconst rfl ?_
        refine q_aload_n rfl rfl ?_
        refine v_gi (z := 4) (v := (nx F e1 a9)) rfl rfl rfl (by decide) rfl rfl (h_68) ?_
        refine v_cv rfl rfl rfl rfl (by decide) ⟨⟨rfl, rfl⟩, by decide, rfl⟩ (Nat.le_of_ble_eq_true rfl) (Nat.le_of_ble_eq_true rfl) ?_
        refine q_aload_n rfl rfl ?_
        have kn_69 : Hid (c_65 41 5 = (-1)) := (hF_67 41 5 (fun h => absurd h.2 (ni rfl))).trans hro_hRt.2.1
        refine v_gi (z := 5) (v := (-1)) rfl rfl rfl (by decide) rfl rfl (hid kn_69) ?_
        refine q_iconst rfl ?_
        refine v_ic_eq_t (t := 9) rfl (by decide) (by decide) ?_
        refine q_aload_n rfl rfl ?_
        refine q_iload_n rfl rfl ?_
        refine v_pi (z := 5) rfl rfl rfl (by decide) rfl rfl rfl (by decide) ?_
        refine q_aload_n rfl rfl ?_
        refine q_iload_n rfl rfl ?_
        refine v_pi (z := 6) rfl rfl rfl (by decide) rfl rfl rfl (by decide) ?_
        refine q_vret rfl rfl ?_
        refine bk_inl ?_
        refine q_aload_n rfl rfl ?_
        refine v_cv rfl rfl rfl rfl (by decide) ⟨⟨rfl, rfl⟩, by decide, rfl⟩ (Nat.le_of_ble_eq_true rfl) (Nat.le_of_ble_eq_true rfl) ?_
        refine q_aload_n rfl rfl ?_
        refine v_gi (z := 5) (v := (nx F e1 a9)) rfl rfl rfl (by decide) rfl rfl ((up_n (by decide)).trans (up_e rfl)) ?_
        refine q_iconst rfl ?_
        refine v_ic_ne_t (t := 12) rfl (by decide) (by omega) ?_
        refine q_iconst rfl ?_
        refine v_zret rfl rfl (by decide) ?_
        refine bk_inl ?_
        refine v_if_eq_t (t := 41) rfl (by decide) (by decide) ?_
        refine q_vret rfl rfl ?_
        have hI_70 := iw_41_5 (v := (nx F e1 a9)) hI_66 ⟨by omega, by omega⟩
        have hI_71 := iw_41_6 (v := 1) hI_70 ⟨by decide, by decide⟩
        have h_72 : (up (up c_65 41 5 (nx F e1 a9)) 41 6 1) 41 5 = (nx F e1 a9) := ((up_n (by decide)).trans (up_e rfl))
        have h_73 : (up (up c_65 41 5 (nx F e1 a9)) 41 6 1) 41 4 = (nx F e1 a9) := ((up_n (by decide)).trans ((up_n (by decide)).trans (h_68)))
        have h_74 : (up (up c_65 41 5 (nx F e1 a9)) 41 6 1) 41 6 = 1 := (up_e rfl)
        exact K (up (up c_65 41 5 (nx F e1 a9)) 41 6 1)  hI_71 (fun a j hm => (up_b (Decidable.or_iff_not_imp_left.mpr (fun h1 h2 => hm (Or.inr (Or.inr ⟨Decidable.not_not.mp h1, h2⟩))))).trans ((up_b (Decidable.or_iff_not_imp_left.mpr (fun h1 h2 => hm (Or.inr (Or.inl ⟨Decidable.not_not.mp h1, h2⟩))))).trans (hF_67 a j (fun h => hm (Or.inl h))))) (by unfold Rt; omega) (by omega)
      · refine v_ic_ne_f (t := 49) rfl (by decide) (by omega) ?_
        refine q_aload_n rfl rfl ?_
        refine q_dup rfl rfl ?_
        refine v_gi (z := 2) (v := (nx F e1 a9)) rfl rfl rfl (by decide) rfl rfl (hz_12) ?_
        refine q_iconst rfl ?_
        refine v_iadd (v := (nx F e1 a9) + 1) rfl (by omega) ?_
        refine v_pi (z := 2) rfl rfl rfl (by decide) rfl rfl rfl (by decide) ?_
        refine q_iload_n rfl rfl ?_
        refine q_iret rfl rfl ?_
        refine bk_inl ?_
        refine q_iconst rfl ?_
        refine v_ic_ne_t (t := 25) rfl (by decide) (by decide) ?_
        refine q_vret rfl rfl ?_
        have hI_75 := iw_1_2 (v := (nx F e1 a9) + 1) hI_10 ⟨by omega, by omega⟩
        intro hE_76
        have hW : Wd P Q P P (up c_9 1 2 ((nx F e1 a9) + 1)) = Wd P Q P P m9 := (Prod.mk.inj (Prod.mk.inj hE_76).2).1
        have kn_77 : Hid (c_9 1 4 = 0) := (hF_11 1 4 (fun h => absurd h.2 (ni rfl))).trans (hs9)
        have h_78 := ir_1_4 hJ9
        have h_79 : m9 1 4 = 0 := wd_fv (z := 4) 4 rfl hW rfl rfl rfl rfl (by decide) ((up_n (by decide)).trans (hid kn_77)) ⟨by omega, by omega⟩ ⟨by omega, by omega⟩
        have h_80 := ir_1_2 hJ9
        have h_81 : m9 1 2 = (nx F e1 a9) + 1 := wd_fv (z := 2) 2 rfl hW rfl rfl rfl rfl (by decide) (up_e rfl) ⟨by omega, by omega⟩ ⟨by omega, by omega⟩
        have kn_82 : Hid (c_9 1 5 = (-1)) := (hF_11 1 5 (fun h => absurd h.2 (ni rfl))).trans (hs8)
        have h_83 := ir_1_5 hJ9
        have h_84 : m9 1 5 = (-1) := wd_fv (z := 5) 5 rfl hW rfl rfl rfl rfl (by decide) ((up_n (by decide)).trans (hid kn_82)) ⟨by omega, by omega⟩ ⟨by omega, by omega⟩
        refine q_aload_n rfl rfl ?_
        refine v_cv rfl rfl rfl rfl (by decide) ⟨⟨rfl, rfl⟩, by decide, rfl⟩ (Nat.le_of_ble_eq_true rfl) (Nat.le_of_ble_eq_true rfl) ?_
        refine q_aload_n rfl rfl ?_
        have h_85 := ir_41_5 hI
        have h_86 := ir_1_5 hJ
        have h_87 := ir_41_4 hI
        have h_88 := ir_41_6 hI
        have h_89 := rt_ok hRt (by omega)
        have hro_hRt := rt_ok hRt (by omega)
        refine v_gi (z := 5) (v := (-1)) rfl rfl rfl (by decide) rfl rfl hro_hRt.2.1 ?_
        refine q_iconst rfl ?_
        refine v_ic_ne_f (t := 12) rfl (by decide) (by decide) ?_
        refine q_iconst rfl ?_
        refine q_goto (t := 13) rfl (by decide) ?_
        refine v_zret rfl rfl (by decide) ?_
        refine bk_inl ?_
        refine v_if_eq_f (t := 24) rfl (by decide) (by decide) ?_
        refine q_aload_n rfl rfl ?_
        have h_90 : -2147483648 ≤ (H (nx F e1 a9)) ∧ (H (nx F e1 a9)) ≤ 2147483647 := by rw [← hH (nx F e1 a9)]; exact ir_43 hI (nx F e1 a9)
        have h_91 := hU (nx F e1 a9) (by omega) (by omega)
        have h_92 := hb_or (b := H) (e := e1) (r := (nx F e1 a9))
        have h_93 := hb_bd (b := H) (e := e1) (r := (nx F e1 a9)) (lo := -2147483648) (hi := 2147483647) ⟨by omega, by omega⟩ (by decide)
        refine v_cv rfl rfl rfl rfl (by decide) ⟨⟨rfl, rfl⟩, by decide, rfl⟩ (Nat.le_of_ble_eq_true rfl) (Nat.le_of_ble_eq_true rfl) (f_154 (e1 := e1) (a9 := a9) (B := H) (r8 := (nx F e1 a9)) (r := (hb H e1 (nx F e1 a9))) hI ((hr_e1)) (((hro_hRt.2.2.1).trans ((hg_a9)))) (fun j => hH j) ((nx_tr hU (by omega) (by omega)).trans (rfl)) rfl (fun c_94 hI_95 hF_96 h_97 => ?_))
        refine bk_inl ?_
        refine q_iload_n rfl rfl ?_
        refine v_ic_eq_t (t := 24) rfl (by decide) (by omega) ?_
        refine q_aload_n rfl rfl ?_
        refine v_cv rfl rfl rfl rfl (by decide) ⟨⟨rfl, rfl⟩, by decide, rfl⟩ (Nat.le_of_ble_eq_true rfl) (Nat.le_of_ble_eq_true rfl) ?_
        refine q_aload_n rfl rfl ?_
        have kn_98 : Hid (c_94 41 5 = (-1)) := (hF_96 41 5 (fun h => absurd h.2 (ni rfl))).trans hro_hRt.2.1
        refine v_gi (z := 5) (v := (-1)) rfl rfl rfl (by decide) rfl rfl (hid kn_98) ?_
        refine q_iconst rfl ?_
        refine v_ic_ne_f (t := 12) rfl (by decide) (by decide) ?_
        refine q_iconst rfl ?_
        refine q_goto (t := 13) rfl (by decide) ?_
        refine v_zret rfl rfl (by decide) ?_
        refine bk_inl ?_
        refine v_if_eq_f (t := 41) rfl (by decide) (by decide) ?_
        refine q_aload_n rfl rfl ?_
        refine q_dup rfl rfl ?_
        refine v_gi (z := 4) (v := (nx F e1 a9)) rfl rfl rfl (by decide) rfl rfl (h_97) ?_
        refine q_iconst rfl ?_
        refine v_iadd (v := (nx F e1 a9) + 1) rfl (by omega) ?_
        refine v_pi (z := 4) rfl rfl rfl (by decide) rfl rfl rfl (by decide) ?_
        refine q_vret rfl rfl ?_
        have hI_99 := iw_41_4 (v := (nx F e1 a9) + 1) hI_95 ⟨by omega, by omega⟩
        have h_100 : (up c_94 41 4 ((nx F e1 a9) + 1)) 41 5 = (-1) := ((up_n (by decide)).trans (hid kn_98))
        have h_101 : (up c_94 41 4 ((nx F e1 a9) + 1)) 41 4 = (nx F e1 a9) + 1 := (up_e rfl)
        have kn_102 : Hid (c_94 41 6 = c 41 6) := hF_96 41 6 (fun h => absurd h.2 (ni rfl))
        have h_103 : (up c_94 41 4 ((nx F e1 a9) + 1)) 41 6 = c 41 6 := ((up_n (by decide)).trans (hid kn_102))
        exact K (up c_94 41 4 ((nx F e1 a9) + 1))  hI_99 (fun a j hm => (up_b (Decidable.or_iff_not_imp_left.mpr (fun h1 h2 => hm (Or.inl ⟨Decidable.not_not.mp h1, h2⟩)))).trans (hF_96 a j (fun h => hm (Or.inl h)))) (by unfold Rt; omega) (by omega)
  · skip
    have h_104 := ir_1_4 hJ
    refine q_aload_n rfl rfl ?_
    refine v_cv rfl rfl rfl rfl (by decide) ⟨⟨rfl, rfl⟩, by decide, rfl⟩ (Nat.le_of_ble_eq_true rfl) (Nat.le_of_ble_eq_true rfl) ?_
    refine q_aload_n rfl rfl ?_
    refine v_gi (z := 4) (v := m 1 4) rfl rfl rfl (by decide) rfl rfl rfl ?_
    refine v_if_ne_t (t := 11) rfl (by decide) (by omega) ?_
    refine q_iconst rfl ?_
    refine v_zret rfl rfl (by decide) ?_
    refine bk_inl ?_
    refine v_if_eq_t (t := 25) rfl (by decide) (by decide) ?_
    refine q_vret rfl rfl ?_
    intro hE_105
    have hW : Wd P Q P P m = Wd P Q P P m9 := (Prod.mk.inj (Prod.mk.inj hE_105).2).1
    have h_106 := ir_1_4 hJ9
    have h_107 : m9 1 4 = m 1 4 := wd_fv (z := 4) 4 rfl hW rfl rfl rfl rfl (by decide) rfl ⟨by omega, by omega⟩ ⟨by omega, by omega⟩
    have h_108 := ir_1_2 hJ9
    have h_109 : m9 1 2 = a9 := wd_fv (z := 2) 2 rfl hW rfl rfl rfl rfl (by decide) (hg_a9) ⟨by omega, by omega⟩ ⟨by omega, by omega⟩
    have h_110 := ir_1_5 hJ
    have h_111 := ir_1_5 hJ9
    have h_112 : m9 1 5 = m 1 5 := wd_fv (z := 5) 5 rfl hW rfl rfl rfl rfl (by decide) rfl ⟨by omega, by omega⟩ ⟨by omega, by omega⟩
    refine q_aload_n rfl rfl ?_
    refine v_cv rfl rfl rfl rfl (by decide) ⟨⟨rfl, rfl⟩, by decide, rfl⟩ (Nat.le_of_ble_eq_true rfl) (Nat.le_of_ble_eq_true rfl) ?_
    refine q_aload_n rfl rfl ?_
    have h_113 := ir_41_5 hI
    have h_114 := ir_41_4 hI
    have h_115 := ir_41_6 hI
    have h_116 := rt_bad hRt (by omega)
    have hrb_hRt := rt_bad hRt (by omega)
    refine v_gi (z := 5) (v := m 1 5) rfl rfl rfl (by decide) rfl rfl hrb_hRt.2.1 ?_
    refine q_iconst rfl ?_
    refine v_ic_ne_t (t := 12) rfl (by decide) (by omega) ?_
    refine q_iconst rfl ?_
    refine v_zret rfl rfl (by decide) ?_
    refine bk_inl ?_
    refine v_if_eq_t (t := 24) rfl (by decide) (by decide) ?_
    refine q_aload_n rfl rfl ?_
    refine v_cv rfl rfl rfl rfl (by decide) ⟨⟨rfl, rfl⟩, by decide, rfl⟩ (Nat.le_of_ble_eq_true rfl) (Nat.le_of_ble_eq_true rfl) ?_
    refine q_aload_n rfl rfl ?_
    refine v_gi (z := 5) (v := m 1 5) rfl rfl rfl (by decide) rfl rfl hrb_hRt.2.1 ?_
    refine q_iconst rfl ?_
    refine v_ic_ne_t (t := 12) rfl (by decide) (by omega) ?_
    refine q_iconst rfl ?_
    refine v_zret rfl rfl (by decide) ?_
    refine bk_inl ?_
    refine v_if_eq_t (t := 41) rfl (by decide) (by decide) ?_
    refine q_vret rfl rfl ?_
    have h_117 : c 41 5 = m 1 5 := hrb_hRt.2.1
    have h_118 : c 41 6 = m 1 4 := hrb_hRt.2.2.2
    exact K c  hI (fun a j hm => rfl) (by unfold Rt; omega) (by omega)

set_option maxRecDepth 100000 in
set_option maxHeartbeats 4000000 in
theorem L_33_0 {sc : List Int32} {e eg : Int} {d dh u ug P Q P2 Q2 A : Nat} {c m m9 : ME} {e1 jr st si du : Int} {F H : Int → Int} {Z : AR → Prop} (hI : Iv u e P2 Q2 c) (hJ : Iv ug eg P Q m) (hJ9 : Iv ug eg P Q m9) (hA : A = 13 ∨ A = 25) (hq0 : (jr ≤ 5)) (hg_e1 : m 1 1 = e1) (hr_e1 : c 41 3 = e1) (hg_jr : m A 0 = jr) (hr_jr : c 41 16 = jr) (hg_st : m A 1 = st) (hr_st : c 41 17 = st) (hg_si : m A 2 = si) (hr_si : c 41 18 = si) (hg_du : m A 3 = du) (hr_du : c 41 19 = du) (hF : ∀ j : Int, m 2 j = F j) (hH : ∀ j : Int, c 43 j = H j) (hU : Ub F H) (hRt : Rt m c) (hG : Wp sc (dh + 18) 33 0 [(0, .ref A), (1, .ref 1), (2, vi 0)] [] (Wd P Q P P m) 0 0 (fun q => q = (.inl (none), Wd P Q P P m9, 0, 0))) (K : ∀ (c2 : ME), Iv u e P2 Q2 c2 → (∀ (a : Nat) (j : Int), ¬ ((a = 41 ∧ j = 4) ∨ (a = 41 ∧ j = 5) ∨ (a = 41 ∧ j = 6) ∨ (a = 41 ∧ j = 16) ∨ (a = 41 ∧ j = 17) ∨ (a = 41 ∧ j = 18) ∨ (a = 41 ∧ j = 19) ∨ a = 44 ∨ a = 45 ∨ a = 46) → c2 a j = c a j) → (Rt m9 c2) → ((m9 A 0 = c2 41 16)) → ((m9 A 1 = c2 41 17)) → ((m9 A 2 = c2 41 18)) → ((m9 A 3 = c2 41 19)) → Z (.inl (none), Wd P2 Q2 P2 P2 c2, 0, 0)) : Wp sc (d + 18) 168 0 [(0, .ref 41), (1, vi 10290)] [] (Wd P2 Q2 P2 P2 c) 0 0 Z := by
  have hP := iv_P hJ
  have hQ := iv_Q hJ
  have h_1 := ir_1_1 hJ
  have h_2 := ir_41_3 hI
  have h_3 := ir_p0_0 hJ hA
  have h_4 := ir_41_16 hI
  have h_5 := ir_p0_1 hJ hA
  have h_6 := ir_41_17 hI
  have h_7 := ir_p0_2 hJ hA
  have h_8 := ir_41_18 hI
  have h_9 := ir_p0_3 hJ hA
  have h_10 := ir_41_19 hI
  refine gh hG ?_
  refine q_iload_n rfl rfl ?_
  refine v_tsw_i (t := 28) 0 rfl (by omega) (by decide) rfl (by decide) ?_
  refine q_aload_n rfl rfl ?_
  refine q_aload_n rfl rfl ?_
  refine v_gr (t := (A + 1)) rfl rfl (ck_p0 hA) (by omega) rfl ?_
  refine q_aload_n rfl rfl ?_
  refine v_gi (z := 0) (v := jr) rfl rfl (ck_p0 hA) (by omega) rfl rfl (hg_jr) ?_
  refine q_iconst rfl ?_
  refine v_imul (v := 4 * jr) rfl (by omega) ?_
  refine q_iconst rfl ?_
  refine v_sip rfl (by decide) ?_
  refine q_call rfl rfl rfl rfl ?_
  refine q_iload_n rfl rfl ?_
  refine q_istore rfl (by decide) ?_
  refine q_iload rfl rfl ?_
  refine q_iload_n rfl rfl ?_
  refine q_iload_n rfl rfl ?_
  refine v_iadd (v := 4 * jr + 4) rfl (by omega) ?_
  refine v_ic_ge_f (t := 34) rfl (by decide) (by omega) ?_
  refine q_iload rfl rfl ?_
  refine q_aload_n rfl rfl ?_
  refine v_al rfl (ck_p1 hA) (by omega) (by decide) ?_
  refine v_ic_ge_f (t := 34) rfl (by decide) (by omega) ?_
  refine q_aload_n rfl rfl ?_
  refine q_iload rfl rfl ?_
  refine q_aload_n rfl rfl ?_
  refine q_iload rfl rfl ?_
  have h_11 := ir_1_4 hJ
  refine v_cv rfl rfl rfl rfl (by decide) ⟨⟨rfl, rfl⟩, by decide, rfl⟩ (Nat.le_of_ble_eq_true rfl) (Nat.le_of_ble_eq_true rfl) (fn_of (s_8 (a1 := 999) hJ (show (-1) ≤ 999 ∧ 999 ≤ 9999 from by omega) (fun c_12 y_15 hI_13 hF_14 hy_15 h_16 => ?_)))
  intro hG_17
  refine bk_inl ?_
  refine v_is rfl (ck_p1 hA) (by omega) (by decide) (by omega) ?_
  refine v_iinc (v := 4 * jr + 1) rfl rfl (by decide) (by omega) ?_
  refine q_goto (t := 3) rfl (by decide) ?_
  refine q_iload rfl rfl ?_
  refine q_iload_n rfl rfl ?_
  refine q_iload_n rfl rfl ?_
  refine v_iadd (v := 4 * jr + 4) rfl (by omega) ?_
  refine v_ic_ge_f (t := 34) rfl (by decide) (by omega) ?_
  refine q_iload rfl rfl ?_
  refine q_aload_n rfl rfl ?_
  refine v_al rfl (ck_p1 hA) (by omega) (by decide) ?_
  refine v_ic_ge_f (t := 34) rfl (by decide) (by omega) ?_
  refine q_aload_n rfl rfl ?_
  refine q_iload rfl rfl ?_
  refine q_aload_n rfl rfl ?_
  refine q_iload rfl rfl ?_
  have h_18 := ir_1_4 hI_13
  have hI_19 := iw_p1 (j := 4 * jr) (v := y_15) hI_13 hA ⟨by omega, by omega⟩
  refine v_cv rfl rfl rfl rfl (by decide) ⟨⟨rfl, rfl⟩, by decide, rfl⟩ (Nat.le_of_ble_eq_true rfl) (Nat.le_of_ble_eq_true rfl) (fn_of (s_8 (a1 := 999) hI_19 (show (-1) ≤ 999 ∧ 999 ≤ 9999 from by omega) (fun c_20 y_23 hI_21 hF_22 hy_23 h_24 => ?_)))
  intro hG_25
  refine bk_inl ?_
  refine v_is rfl (ck_p1 hA) (by omega) (by decide) (by omega) ?_
  refine v_iinc (v := 4 * jr + 2) rfl rfl (by decide) (by omega) ?_
  refine q_goto (t := 3) rfl (by decide) ?_
  refine q_iload rfl rfl ?_
  refine q_iload_n rfl rfl ?_
  refine q_iload_n rfl rfl ?_
  refine v_iadd (v := 4 * jr + 4) rfl (by omega) ?_
  refine v_ic_ge_f (t := 34) rfl (by decide) (by omega) ?_
  refine q_iload rfl rfl ?_
  refine q_aload_n rfl rfl ?_
  refine v_al rfl (ck_p1 hA) (by omega) (by decide) ?_
  refine v_ic_ge_f (t := 34) rfl (by decide) (by omega) ?_
  refine q_aload_n rfl rfl ?_
  refine q_iload rfl rfl ?_
  refine q_aload_n rfl rfl ?_
  refine q_iload rfl rfl ?_
  have h_26 := ir_1_4 hI_21
  have hI_27 := iw_p1 (j := 4 * jr + 1) (v := y_23) hI_21 hA ⟨by omega, by omega⟩
  refine v_cv rfl rfl rfl rfl (by decide) ⟨⟨rfl, rfl⟩, by decide, rfl⟩ (Nat.le_of_ble_eq_true rfl) (Nat.le_of_ble_eq_true rfl) (fn_of (s_8 (a1 := 999) hI_27 (show (-1) ≤ 999 ∧ 999 ≤ 9999 from by omega) (fun c_28 y_31 hI_29 hF_30 hy_31 h_32 => ?_)))
  intro hG_33
  refine bk_inl ?_
  refine v_is rfl (ck_p1 hA) (by omega) (by decide) (by omega) ?_
  refine v_iinc (v := 4 * jr + 3) rfl rfl (by decide) (by omega) ?_
  refine q_goto (t := 3) rfl (by decide) ?_
  refine q_iload rfl rfl ?_
  refine q_iload_n rfl rfl ?_
  refine q_iload_n rfl rfl ?_
  refine v_iadd (v := 4 * jr + 4) rfl (by omega) ?_
  refine v_ic_ge_f (t := 34) rfl (by decide) (by omega) ?_
  refine q_iload rfl rfl ?_
  refine q_aload_n rfl rfl ?_
  refine v_al rfl (ck_p1 hA) (by omega) (by decide) ?_
  refine v_ic_ge_f (t := 34) rfl (by decide) (by omega) ?_
  refine q_aload_n rfl rfl ?_
  refine q_iload rfl rfl ?_
  refine q_aload_n rfl rfl ?_
  refine q_iload rfl rfl ?_
  have h_34 := ir_1_4 hI_29
  have hI_35 := iw_p1 (j := 4 * jr + 2) (v := y_31) hI_29 hA ⟨by omega, by omega⟩
  refine v_cv rfl rfl rfl rfl (by decide) ⟨⟨rfl, rfl⟩, by decide, rfl⟩ (Nat.le_of_ble_eq_true rfl) (Nat.le_of_ble_eq_true rfl) (fn_of (s_8 (a1 := 999) hI_35 (show (-1) ≤ 999 ∧ 999 ≤ 9999 from by omega) (fun c_36 y_39 hI_37 hF_38 hy_39 h_40 => ?_)))
  intro hG_41
  refine bk_inl ?_
  refine v_is rfl (ck_p1 hA) (by omega) (by decide) (by omega) ?_
  refine v_iinc (v := 4 * jr + 4) rfl rfl (by decide) (by omega) ?_
  refine Wp_ls [(5, vi (4 * jr + 4)), (0, .ref 1), (1, .ref (A + 1)), (2, vi (4 * jr)), (3, vi 4), (4, vi 999)] (lsub_cons rfl (lsub_cons rfl (lsub_cons rfl (lsub_cons rfl (lsub_cons rfl (lsub_cons rfl lsub_nil)))))) ?_
  refine q_goto (t := 3) rfl (by decide) ?_
  refine q_iload rfl rfl ?_
  refine q_iload_n rfl rfl ?_
  refine q_iload_n rfl rfl ?_
  refine v_iadd (v := 4 * jr + 4) rfl (by omega) ?_
  refine v_ic_ge_t (t := 34) rfl (by decide) (by omega) ?_
  refine q_vret rfl rfl ?_
  refine bk_inl ?_
  refine q_aload_n rfl rfl ?_
  refine q_dup rfl rfl ?_
  have kn_42 : Hid (c_12 A 0 = jr) := (hF_14 A 0 (fun q => q.elim (fun h => absurd h.1 (np0 hA rfl)) (fun q => q.elim (fun h => absurd h.1 (np0 hA rfl)) (fun h => absurd h.1 (np0 hA rfl))))).trans (hg_jr)
  have kn_43 : Hid (c_20 A 0 = jr) := (hF_22 A 0 (fun q => q.elim (fun h => absurd h.1 (np0 hA rfl)) (fun q => q.elim (fun h => absurd h.1 (np0 hA rfl)) (fun h => absurd h.1 (np0 hA rfl))))).trans ((up_c (p0p rfl)).trans (hid kn_42))
  have kn_44 : Hid (c_28 A 0 = jr) := (hF_30 A 0 (fun q => q.elim (fun h => absurd h.1 (np0 hA rfl)) (fun q => q.elim (fun h => absurd h.1 (np0 hA rfl)) (fun h => absurd h.1 (np0 hA rfl))))).trans ((up_c (p0p rfl)).trans (hid kn_43))
  have kn_45 : Hid (c_36 A 0 = jr) := (hF_38 A 0 (fun q => q.elim (fun h => absurd h.1 (np0 hA rfl)) (fun q => q.elim (fun h => absurd h.1 (np0 hA rfl)) (fun h => absurd h.1 (np0 hA rfl))))).trans ((up_c (p0p rfl)).trans (hid kn_44))
  refine v_gi (z := 0) (v := jr) rfl rfl (ck_p0 hA) (by omega) rfl rfl ((up_c (p0p rfl)).trans (hid kn_45)) ?_
  refine q_iconst rfl ?_
  refine v_iadd (v := jr + 1) rfl (by omega) ?_
  refine v_pi (z := 0) rfl rfl (ck_p0 hA) (by omega) rfl rfl rfl (by decide) ?_
  refine q_goto (t := 126) rfl (by decide) ?_
  refine q_vret rfl rfl ?_
  have hI_46 := iw_p1 (j := 4 * jr + 3) (v := y_39) hI_37 hA ⟨by omega, by omega⟩
  have hI_47 := iw_p0_0 (v := jr + 1) hI_46 hA ⟨by omega, by omega⟩
  intro hE_48
  have hW : Wd P Q P P (up (up c_36 (A + 1) (4 * jr + 3) y_39) A 0 (jr + 1)) = Wd P Q P P m9 := (Prod.mk.inj (Prod.mk.inj hE_48).2).1
  have h_49 := ir_1_4 hI_37
  have h_50 := ir_1_4 hJ9
  have h_51 : m9 1 4 = c_36 1 4 := wd_fv (z := 4) 4 rfl hW rfl rfl rfl rfl (by decide) ((up_c (pn0 hA rfl)).trans (up_c (pn hA rfl rfl))) ⟨by omega, by omega⟩ ⟨by omega, by omega⟩
  have h_52 := ir_1_2 hI_37
  have h_53 := ir_1_2 hJ9
  have h_54 : m9 1 2 = c_36 1 2 := wd_fv (z := 2) 2 rfl hW rfl rfl rfl rfl (by decide) ((up_c (pn0 hA rfl)).trans (up_c (pn hA rfl rfl))) ⟨by omega, by omega⟩ ⟨by omega, by omega⟩
  have h_55 := ir_1_5 hI_37
  have h_56 := ir_1_5 hJ9
  have h_57 : m9 1 5 = c_36 1 5 := wd_fv (z := 5) 5 rfl hW rfl rfl rfl rfl (by decide) ((up_c (pn0 hA rfl)).trans (up_c (pn hA rfl rfl))) ⟨by omega, by omega⟩ ⟨by omega, by omega⟩
  have h_58 := ir_p0_0 hJ9 hA
  have h_59 : m9 A 0 = jr + 1 := wd_fv (z := 0) 0 rfl hW (ck_p0 hA) (ck_p0 hA) rfl rfl (by omega) (up_e rfl) ⟨by omega, by omega⟩ ⟨by omega, by omega⟩
  have kn_60 : Hid (c_12 A 1 = st) := (hF_14 A 1 (fun q => q.elim (fun h => absurd h.1 (np0 hA rfl)) (fun q => q.elim (fun h => absurd h.1 (np0 hA rfl)) (fun h => absurd h.1 (np0 hA rfl))))).trans (hg_st)
  have kn_61 : Hid (c_20 A 1 = st) := (hF_22 A 1 (fun q => q.elim (fun h => absurd h.1 (np0 hA rfl)) (fun q => q.elim (fun h => absurd h.1 (np0 hA rfl)) (fun h => absurd h.1 (np0 hA rfl))))).trans ((up_c (p0p rfl)).trans (hid kn_60))
  have kn_62 : Hid (c_28 A 1 = st) := (hF_30 A 1 (fun q => q.elim (fun h => absurd h.1 (np0 hA rfl)) (fun q => q.elim (fun h => absurd h.1 (np0 hA rfl)) (fun h => absurd h.1 (np0 hA rfl))))).trans ((up_c (p0p rfl)).trans (hid kn_61))
  have kn_63 : Hid (c_36 A 1 = st) := (hF_38 A 1 (fun q => q.elim (fun h => absurd h.1 (np0 hA rfl)) (fun q => q.elim (fun h => absurd h.1 (np0 hA rfl)) (fun h => absurd h.1 (np0 hA rfl))))).trans ((up_c (p0p rfl)).trans (hid kn_62))
  have h_64 := ir_p0_1 hJ9 hA
  have h_65 : m9 A 1 = st := wd_fv (z := 1) 1 rfl hW (ck_p0 hA) (ck_p0 hA) rfl rfl (by omega) ((up_n (by decide)).trans ((up_c (p0p rfl)).trans (hid kn_63))) ⟨by omega, by omega⟩ ⟨by omega, by omega⟩
  have kn_66 : Hid (c_12 A 2 = si) := (hF_14 A 2 (fun q => q.elim (fun h => absurd h.1 (np0 hA rfl)) (fun q => q.elim (fun h => absurd h.1 (np0 hA rfl)) (fun h => absurd h.1 (np0 hA rfl))))).trans (hg_si)
  have kn_67 : Hid (c_20 A 2 = si) := (hF_22 A 2 (fun q => q.elim (fun h => absurd h.1 (np0 hA rfl)) (fun q => q.elim (fun h => absurd h.1 (np0 hA rfl)) (fun h => absurd h.1 (np0 hA rfl))))).trans ((up_c (p0p rfl)).trans (hid kn_66))
  have kn_68 : Hid (c_28 A 2 = si) := (hF_30 A 2 (fun q => q.elim (fun h => absurd h.1 (np0 hA rfl)) (fun q => q.elim (fun h => absurd h.1 (np0 hA rfl)) (fun h => absurd h.1 (np0 hA rfl))))).trans ((up_c (p0p rfl)).trans (hid kn_67))
  have kn_69 : Hid (c_36 A 2 = si) := (hF_38 A 2 (fun q => q.elim (fun h => absurd h.1 (np0 hA rfl)) (fun q => q.elim (fun h => absurd h.1 (np0 hA rfl)) (fun h => absurd h.1 (np0 hA rfl))))).trans ((up_c (p0p rfl)).trans (hid kn_68))
  have h_70 := ir_p0_2 hJ9 hA
  have h_71 : m9 A 2 = si := wd_fv (z := 2) 2 rfl hW (ck_p0 hA) (ck_p0 hA) rfl rfl (by omega) ((up_n (by decide)).trans ((up_c (p0p rfl)).trans (hid kn_69))) ⟨by omega, by omega⟩ ⟨by omega, by omega⟩
  have kn_72 : Hid (c_12 A 3 = du) := (hF_14 A 3 (fun q => q.elim (fun h => absurd h.1 (np0 hA rfl)) (fun q => q.elim (fun h => absurd h.1 (np0 hA rfl)) (fun h => absurd h.1 (np0 hA rfl))))).trans (hg_du)
  have kn_73 : Hid (c_20 A 3 = du) := (hF_22 A 3 (fun q => q.elim (fun h => absurd h.1 (np0 hA rfl)) (fun q => q.elim (fun h => absurd h.1 (np0 hA rfl)) (fun h => absurd h.1 (np0 hA rfl))))).trans ((up_c (p0p rfl)).trans (hid kn_72))
  have kn_74 : Hid (c_28 A 3 = du) := (hF_30 A 3 (fun q => q.elim (fun h => absurd h.1 (np0 hA rfl)) (fun q => q.elim (fun h => absurd h.1 (np0 hA rfl)) (fun h => absurd h.1 (np0 hA rfl))))).trans ((up_c (p0p rfl)).trans (hid kn_73))
  have kn_75 : Hid (c_36 A 3 = du) := (hF_38 A 3 (fun q => q.elim (fun h => absurd h.1 (np0 hA rfl)) (fun q => q.elim (fun h => absurd h.1 (np0 hA rfl)) (fun h => absurd h.1 (np0 hA rfl))))).trans ((up_c (p0p rfl)).trans (hid kn_74))
  have h_76 := ir_p0_3 hJ9 hA
  have h_77 : m9 A 3 = du := wd_fv (z := 3) 3 rfl hW (ck_p0 hA) (ck_p0 hA) rfl rfl (by omega) ((up_n (by decide)).trans ((up_c (p0p rfl)).trans (hid kn_75))) ⟨by omega, by omega⟩ ⟨by omega, by omega⟩
  refine q_iload_n rfl rfl ?_
  refine q_ldc_s rfl rfl rfl (by decide) ?_
  refine q_call rfl rfl rfl rfl (s_158_16 ?_)
  refine bk_inl ?_
  refine v_ic_ne_f (t := 56) rfl (by decide) (by decide) ?_
  refine q_iconst rfl ?_
  refine q_istore_n rfl (by decide) ?_
  refine q_iload_n rfl rfl ?_
  refine q_iconst rfl ?_
  refine v_ic_ge_f (t := 43) rfl (by decide) (by decide) ?_
  refine q_aload_n rfl rfl ?_
  refine v_gr (t := 44) rfl rfl rfl (by decide) rfl ?_
  refine q_iconst rfl ?_
  refine q_aload_n rfl rfl ?_
  refine v_gi (z := 16) (v := jr) rfl rfl rfl (by decide) rfl rfl (hr_jr) ?_
  refine v_imul (v := 4 * jr) rfl (by omega) ?_
  refine q_iload_n rfl rfl ?_
  refine v_iadd (v := 4 * jr) rfl (by omega) ?_
  refine q_aload_n rfl rfl ?_
  refine q_iconst rfl ?_
  refine v_sip rfl (by decide) ?_
  have h_78 := ir_1_2 hJ
  refine v_cv rfl rfl rfl rfl (by decide) ⟨⟨rfl, rfl⟩, by decide, rfl⟩ (Nat.le_of_ble_eq_true rfl) (Nat.le_of_ble_eq_true rfl) (L_8 (m := m) (a2 := 999) (yg := y_15) (e1 := e1) (a9 := m 1 2) (F := F) (H := H) hI hJ hI_13 (show (-1) ≤ 999 ∧ 999 ≤ 9999 from by omega) ⟨by omega, by omega⟩ ((hg_e1)) ((hr_e1)) (rfl) (fun j => hF j) (fun j => hH j) hU hRt hG_17 (fun c_79 y_82 hI_80 hF_81 hy_82 hR_83 h_84 h_85 => ?_))
  refine bk_inl ?_
  have hs_86 := h_84.symm
  subst hs_86
  have h_87 := ir_1_2 hI_13
  refine v_is rfl rfl (by decide) (by decide) (by omega) ?_
  refine v_iinc (v := 1) rfl rfl (by decide) (by decide) ?_
  refine q_goto (t := 11) rfl (by decide) ?_
  refine q_iload_n rfl rfl ?_
  refine q_iconst rfl ?_
  refine v_ic_ge_f (t := 43) rfl (by decide) (by decide) ?_
  refine q_aload_n rfl rfl ?_
  refine v_gr (t := 44) rfl rfl rfl (by decide) rfl ?_
  refine q_iconst rfl ?_
  refine q_aload_n rfl rfl ?_
  have kn_88 : Hid (c_79 41 16 = jr) := (hF_81 41 16 (fun q => q.elim (fun h => absurd h.2 (ni rfl)) (fun q => q.elim (fun h => absurd h.2 (ni rfl)) (fun h => absurd h.2 (ni rfl))))).trans (hr_jr)
  refine v_gi (z := 16) (v := jr) rfl rfl rfl (by decide) rfl rfl ((up_c (nn rfl)).trans (hid kn_88)) ?_
  refine v_imul (v := 4 * jr) rfl (by omega) ?_
  refine q_iload_n rfl rfl ?_
  refine v_iadd (v := 4 * jr + 1) rfl (by omega) ?_
  refine q_aload_n rfl rfl ?_
  refine q_iconst rfl ?_
  refine v_sip rfl (by decide) ?_
  have hI_89 := iw_44 (j := 4 * jr) (v := y_15) hI_80 ⟨by omega, by omega⟩
  have kn_90 : Hid (c_12 1 1 = e1) := (hF_14 1 1 (fun q => q.elim (fun h => absurd h.2 (ni rfl)) (fun q => q.elim (fun h => absurd h.2 (ni rfl)) (fun h => absurd h.2 (ni rfl))))).trans (hg_e1)
  have kn_91 : Hid (c_79 41 3 = e1) := (hF_81 41 3 (fun q => q.elim (fun h => absurd h.2 (ni rfl)) (fun q => q.elim (fun h => absurd h.2 (ni rfl)) (fun h => absurd h.2 (ni rfl))))).trans (hr_e1)
  refine v_cv rfl rfl rfl rfl (by decide) ⟨⟨rfl, rfl⟩, by decide, rfl⟩ (Nat.le_of_ble_eq_true rfl) (Nat.le_of_ble_eq_true rfl) (L_8 (m := up c_12 (A + 1) (4 * jr) y_15) (a2 := 999) (yg := y_23) (e1 := e1) (a9 := c_12 1 2) (F := F) (H := H) hI_89 hI_19 hI_21 (show (-1) ≤ 999 ∧ 999 ≤ 9999 from by omega) ⟨by omega, by omega⟩ (((up_c (pn hA rfl rfl)).trans (hid kn_90))) (((up_c (nn rfl)).trans (hid kn_91))) ((up_c (pn hA rfl rfl))) (fun j => ((up_c (pn hA rfl rfl)).trans (hF_14 2 j (fun q => q.elim (fun h => absurd h.1 (nn rfl)) (fun q => q.elim (fun h => absurd h.1 (nn rfl)) (fun h => absurd h.1 (nn rfl)))))).trans (hF j)) (fun j => ((up_c (nn rfl)).trans (hF_81 43 j (fun q => q.elim (fun h => absurd h.1 (nn rfl)) (fun q => q.elim (fun h => absurd h.1 (nn rfl)) (fun h => absurd h.1 (nn rfl)))))).trans (hH j)) hU (rt_fr hR_83 (up_c (pn hA rfl rfl)) (up_c (pn hA rfl rfl)) (up_c (pn hA rfl rfl)) (up_c (nn rfl)) (up_c (nn rfl)) (up_c (nn rfl))) hG_25 (fun c_92 y_95 hI_93 hF_94 hy_95 hR_96 h_97 h_98 => ?_))
  refine bk_inl ?_
  have hs_99 := h_97.symm
  subst hs_99
  have h_100 := ir_1_2 hI_21
  refine v_is rfl rfl (by decide) (by decide) (by omega) ?_
  refine v_iinc (v := 2) rfl rfl (by decide) (by decide) ?_
  refine q_goto (t := 11) rfl (by decide) ?_
  refine q_iload_n rfl rfl ?_
  refine q_iconst rfl ?_
  refine v_ic_ge_f (t := 43) rfl (by decide) (by decide) ?_
  refine q_aload_n rfl rfl ?_
  refine v_gr (t := 44) rfl rfl rfl (by decide) rfl ?_
  refine q_iconst rfl ?_
  refine q_aload_n rfl rfl ?_
  have kn_101 : Hid (c_92 41 16 = jr) := (hF_94 41 16 (fun q => q.elim (fun h => absurd h.2 (ni rfl)) (fun q => q.elim (fun h => absurd h.2 (ni rfl)) (fun h => absurd h.2 (ni rfl))))).trans ((up_c (nn rfl)).trans (hid kn_88))
  refine v_gi (z := 16) (v := jr) rfl rfl rfl (by decide) rfl rfl ((up_c (nn rfl)).trans (hid kn_101)) ?_
  refine v_imul (v := 4 * jr) rfl (by omega) ?_
  refine q_iload_n rfl rfl ?_
  refine v_iadd (v := 4 * jr + 2) rfl (by omega) ?_
  refine q_aload_n rfl rfl ?_
  refine q_iconst rfl ?_
  refine v_sip rfl (by decide) ?_
  have hI_102 := iw_44 (j := 4 * jr + 1) (v := y_23) hI_93 ⟨by omega, by omega⟩
  have kn_103 : Hid (c_20 1 1 = e1) := (hF_22 1 1 (fun q => q.elim (fun h => absurd h.2 (ni rfl)) (fun q => q.elim (fun h => absurd h.2 (ni rfl)) (fun h => absurd h.2 (ni rfl))))).trans ((up_c (pn hA rfl rfl)).trans (hid kn_90))
  have kn_104 : Hid (c_92 41 3 = e1) := (hF_94 41 3 (fun q => q.elim (fun h => absurd h.2 (ni rfl)) (fun q => q.elim (fun h => absurd h.2 (ni rfl)) (fun h => absurd h.2 (ni rfl))))).trans ((up_c (nn rfl)).trans (hid kn_91))
  refine v_cv rfl rfl rfl rfl (by decide) ⟨⟨rfl, rfl⟩, by decide, rfl⟩ (Nat.le_of_ble_eq_true rfl) (Nat.le_of_ble_eq_true rfl) (L_8 (m := up c_20 (A + 1) (4 * jr + 1) y_23) (a2 := 999) (yg := y_31) (e1 := e1) (a9 := c_20 1 2) (F := F) (H := H) hI_102 hI_27 hI_29 (show (-1) ≤ 999 ∧ 999 ≤ 9999 from by omega) ⟨by omega, by omega⟩ (((up_c (pn hA rfl rfl)).trans (hid kn_103))) (((up_c (nn rfl)).trans (hid kn_104))) ((up_c (pn hA rfl rfl))) (fun j => ((up_c (pn hA rfl rfl)).trans ((hF_22 2 j (fun q => q.elim (fun h => absurd h.1 (nn rfl)) (fun q => q.elim (fun h => absurd h.1 (nn rfl)) (fun h => absurd h.1 (nn rfl))))).trans ((up_c (pn hA rfl rfl)).trans (hF_14 2 j (fun q => q.elim (fun h => absurd h.1 (nn rfl)) (fun q => q.elim (fun h => absurd h.1 (nn rfl)) (fun h => absurd h.1 (nn rfl)))))))).trans (hF j)) (fun j => ((up_c (nn rfl)).trans ((hF_94 43 j (fun q => q.elim (fun h => absurd h.1 (nn rfl)) (fun q => q.elim (fun h => absurd h.1 (nn rfl)) (fun h => absurd h.1 (nn rfl))))).trans ((up_c (nn rfl)).trans (hF_81 43 j (fun q => q.elim (fun h => absurd h.1 (nn rfl)) (fun q => q.elim (fun h => absurd h.1 (nn rfl)) (fun h => absurd h.1 (nn rfl)))))))).trans (hH j)) hU (rt_fr hR_96 (up_c (pn hA rfl rfl)) (up_c (pn hA rfl rfl)) (up_c (pn hA rfl rfl)) (up_c (nn rfl)) (up_c (nn rfl)) (up_c (nn rfl))) hG_33 (fun c_105 y_108 hI_106 hF_107 hy_108 hR_109 h_110 h_111 => ?_))
  refine bk_inl ?_
  have hs_112 := h_110.symm
  subst hs_112
  have h_113 := ir_1_2 hI_29
  refine v_is rfl rfl (by decide) (by decide) (by omega) ?_
  refine v_iinc (v := 3) rfl rfl (by decide) (by decide) ?_
  refine q_goto (t := 11) rfl (by decide) ?_
  refine q_iload_n rfl rfl ?_
  refine q_iconst rfl ?_
  refine v_ic_ge_f (t := 43) rfl (by decide) (by decide) ?_
  refine q_aload_n rfl rfl ?_
  refine v_gr (t := 44) rfl rfl rfl (by decide) rfl ?_
  refine q_iconst rfl ?_
  refine q_aload_n rfl rfl ?_
  have kn_114 : Hid (c_105 41 16 = jr) := (hF_107 41 16 (fun q => q.elim (fun h => absurd h.2 (ni rfl)) (fun q => q.elim (fun h => absurd h.2 (ni rfl)) (fun h => absurd h.2 (ni rfl))))).trans ((up_c (nn rfl)).trans (hid kn_101))
  refine v_gi (z := 16) (v := jr) rfl rfl rfl (by decide) rfl rfl ((up_c (nn rfl)).trans (hid kn_114)) ?_
  refine v_imul (v := 4 * jr) rfl (by omega) ?_
  refine q_iload_n rfl rfl ?_
  refine v_iadd (v := 4 * jr + 3) rfl (by omega) ?_
  refine q_aload_n rfl rfl ?_
  refine q_iconst rfl ?_
  refine v_sip rfl (by decide) ?_
  have hI_115 := iw_44 (j := 4 * jr + 2) (v := y_31) hI_106 ⟨by omega, by omega⟩
  have kn_116 : Hid (c_28 1 1 = e1) := (hF_30 1 1 (fun q => q.elim (fun h => absurd h.2 (ni rfl)) (fun q => q.elim (fun h => absurd h.2 (ni rfl)) (fun h => absurd h.2 (ni rfl))))).trans ((up_c (pn hA rfl rfl)).trans (hid kn_103))
  have kn_117 : Hid (c_105 41 3 = e1) := (hF_107 41 3 (fun q => q.elim (fun h => absurd h.2 (ni rfl)) (fun q => q.elim (fun h => absurd h.2 (ni rfl)) (fun h => absurd h.2 (ni rfl))))).trans ((up_c (nn rfl)).trans (hid kn_104))
  refine v_cv rfl rfl rfl rfl (by decide) ⟨⟨rfl, rfl⟩, by decide, rfl⟩ (Nat.le_of_ble_eq_true rfl) (Nat.le_of_ble_eq_true rfl) (L_8 (m := up c_28 (A + 1) (4 * jr + 2) y_31) (a2 := 999) (yg := y_39) (e1 := e1) (a9 := c_28 1 2) (F := F) (H := H) hI_115 hI_35 hI_37 (show (-1) ≤ 999 ∧ 999 ≤ 9999 from by omega) ⟨by omega, by omega⟩ (((up_c (pn hA rfl rfl)).trans (hid kn_116))) (((up_c (nn rfl)).trans (hid kn_117))) ((up_c (pn hA rfl rfl))) (fun j => ((up_c (pn hA rfl rfl)).trans ((hF_30 2 j (fun q => q.elim (fun h => absurd h.1 (nn rfl)) (fun q => q.elim (fun h => absurd h.1 (nn rfl)) (fun h => absurd h.1 (nn rfl))))).trans ((up_c (pn hA rfl rfl)).trans ((hF_22 2 j (fun q => q.elim (fun h => absurd h.1 (nn rfl)) (fun q => q.elim (fun h => absurd h.1 (nn rfl)) (fun h => absurd h.1 (nn rfl))))).trans ((up_c (pn hA rfl rfl)).trans (hF_14 2 j (fun q => q.elim (fun h => absurd h.1 (nn rfl)) (fun q => q.elim (fun h => absurd h.1 (nn rfl)) (fun h => absurd h.1 (nn rfl)))))))))).trans (hF j)) (fun j => ((up_c (nn rfl)).trans ((hF_107 43 j (fun q => q.elim (fun h => absurd h.1 (nn rfl)) (fun q => q.elim (fun h => absurd h.1 (nn rfl)) (fun h => absurd h.1 (nn rfl))))).trans ((up_c (nn rfl)).trans ((hF_94 43 j (fun q => q.elim (fun h => absurd h.1 (nn rfl)) (fun q => q.elim (fun h => absurd h.1 (nn rfl)) (fun h => absurd h.1 (nn rfl))))).trans ((up_c (nn rfl)).trans (hF_81 43 j (fun q => q.elim (fun h => absurd h.1 (nn rfl)) (fun q => q.elim (fun h => absurd h.1 (nn rfl)) (fun h => absurd h.1 (nn rfl)))))))))).trans (hH j)) hU (rt_fr hR_109 (up_c (pn hA rfl rfl)) (up_c (pn hA rfl rfl)) (up_c (pn hA rfl rfl)) (up_c (nn rfl)) (up_c (nn rfl)) (up_c (nn rfl))) hG_41 (fun c_118 y_121 hI_119 hF_120 hy_121 hR_122 h_123 h_124 => ?_))
  refine bk_inl ?_
  have hs_125 := h_123.symm
  subst hs_125
  refine v_is rfl rfl (by decide) (by decide) (by omega) ?_
  refine v_iinc (v := 4) rfl rfl (by decide) (by decide) ?_
  refine Wp_ls [(2, vi 4), (0, .ref 41), (1, vi 10290)] (lsub_cons rfl (lsub_cons rfl (lsub_cons rfl lsub_nil))) ?_
  refine q_goto (t := 11) rfl (by decide) ?_
  refine q_iload_n rfl rfl ?_
  refine q_iconst rfl ?_
  refine v_ic_ge_t (t := 43) rfl (by decide) (by decide) ?_
  refine q_aload_n rfl rfl ?_
  refine q_dup rfl rfl ?_
  have kn_126 : Hid (c_118 41 16 = jr) := (hF_120 41 16 (fun q => q.elim (fun h => absurd h.2 (ni rfl)) (fun q => q.elim (fun h => absurd h.2 (ni rfl)) (fun h => absurd h.2 (ni rfl))))).trans ((up_c (nn rfl)).trans (hid kn_114))
  refine v_gi (z := 16) (v := jr) rfl rfl rfl (by decide) rfl rfl ((up_c (nn rfl)).trans (hid kn_126)) ?_
  refine q_iconst rfl ?_
  refine v_iadd (v := jr + 1) rfl (by omega) ?_
  refine v_pi (z := 16) rfl rfl rfl (by decide) rfl rfl rfl (by decide) ?_
  refine q_goto (t := 159) rfl (by decide) ?_
  refine q_vret rfl rfl ?_
  have hI_127 := iw_44 (j := 4 * jr + 3) (v := y_39) hI_119 ⟨by omega, by omega⟩
  have hI_128 := iw_41_16 (v := jr + 1) hI_127 ⟨by omega, by omega⟩
  have h_129 := ir_41_5 hI_119
  have h_130 := ir_41_4 hI_119
  have h_131 := ir_41_6 hI_119
  have h_132 := rt_or hR_122
  have h_133 : (up (up c_118 44 (4 * jr + 3) y_39) 41 16 (jr + 1)) 41 5 = c_118 41 5 := ((up_n (by decide)).trans (up_c (nn rfl)))
  have h_134 : (up (up c_118 44 (4 * jr + 3) y_39) 41 16 (jr + 1)) 41 4 = c_118 41 4 := ((up_n (by decide)).trans (up_c (nn rfl)))
  have h_135 : (up (up c_118 44 (4 * jr + 3) y_39) 41 16 (jr + 1)) 41 6 = c_118 41 6 := ((up_n (by decide)).trans (up_c (nn rfl)))
  have h_136 : (up (up c_118 44 (4 * jr + 3) y_39) 41 16 (jr + 1)) 41 16 = jr + 1 := (up_e rfl)
  have kn_137 : Hid (c_79 41 17 = st) := (hF_81 41 17 (fun q => q.elim (fun h => absurd h.2 (ni rfl)) (fun q => q.elim (fun h => absurd h.2 (ni rfl)) (fun h => absurd h.2 (ni rfl))))).trans (hr_st)
  have kn_138 : Hid (c_92 41 17 = st) := (hF_94 41 17 (fun q => q.elim (fun h => absurd h.2 (ni rfl)) (fun q => q.elim (fun h => absurd h.2 (ni rfl)) (fun h => absurd h.2 (ni rfl))))).trans ((up_c (nn rfl)).trans (hid kn_137))
  have kn_139 : Hid (c_105 41 17 = st) := (hF_107 41 17 (fun q => q.elim (fun h => absurd h.2 (ni rfl)) (fun q => q.elim (fun h => absurd h.2 (ni rfl)) (fun h => absurd h.2 (ni rfl))))).trans ((up_c (nn rfl)).trans (hid kn_138))
  have kn_140 : Hid (c_118 41 17 = st) := (hF_120 41 17 (fun q => q.elim (fun h => absurd h.2 (ni rfl)) (fun q => q.elim (fun h => absurd h.2 (ni rfl)) (fun h => absurd h.2 (ni rfl))))).trans ((up_c (nn rfl)).trans (hid kn_139))
  have h_141 : (up (up c_118 44 (4 * jr + 3) y_39) 41 16 (jr + 1)) 41 17 = st := ((up_n (by decide)).trans ((up_c (nn rfl)).trans (hid kn_140)))
  have kn_142 : Hid (c_79 41 18 = si) := (hF_81 41 18 (fun q => q.elim (fun h => absurd h.2 (ni rfl)) (fun q => q.elim (fun h => absurd h.2 (ni rfl)) (fun h => absurd h.2 (ni rfl))))).trans (hr_si)
  have kn_143 : Hid (c_92 41 18 = si) := (hF_94 41 18 (fun q => q.elim (fun h => absurd h.2 (ni rfl)) (fun q => q.elim (fun h => absurd h.2 (ni rfl)) (fun h => absurd h.2 (ni rfl))))).trans ((up_c (nn rfl)).trans (hid kn_142))
  have kn_144 : Hid (c_105 41 18 = si) := (hF_107 41 18 (fun q => q.elim (fun h => absurd h.2 (ni rfl)) (fun q => q.elim (fun h => absurd h.2 (ni rfl)) (fun h => absurd h.2 (ni rfl))))).trans ((up_c (nn rfl)).trans (hid kn_143))
  have kn_145 : Hid (c_118 41 18 = si) := (hF_120 41 18 (fun q => q.elim (fun h => absurd h.2 (ni rfl)) (fun q => q.elim (fun h => absurd h.2 (ni rfl)) (fun h => absurd h.2 (ni rfl))))).trans ((up_c (nn rfl)).trans (hid kn_144))
  have h_146 : (up (up c_118 44 (4 * jr + 3) y_39) 41 16 (jr + 1)) 41 18 = si := ((up_n (by decide)).trans ((up_c (nn rfl)).trans (hid kn_145)))
  have kn_147 : Hid (c_79 41 19 = du) := (hF_81 41 19 (fun q => q.elim (fun h => absurd h.2 (ni rfl)) (fun q => q.elim (fun h => absurd h.2 (ni rfl)) (fun h => absurd h.2 (ni rfl))))).trans (hr_du)
  have kn_148 : Hid (c_92 41 19 = du) := (hF_94 41 19 (fun q => q.elim (fun h => absurd h.2 (ni rfl)) (fun q => q.elim (fun h => absurd h.2 (ni rfl)) (fun h => absurd h.2 (ni rfl))))).trans ((up_c (nn rfl)).trans (hid kn_147))
  have kn_149 : Hid (c_105 41 19 = du) := (hF_107 41 19 (fun q => q.elim (fun h => absurd h.2 (ni rfl)) (fun q => q.elim (fun h => absurd h.2 (ni rfl)) (fun h => absurd h.2 (ni rfl))))).trans ((up_c (nn rfl)).trans (hid kn_148))
  have kn_150 : Hid (c_118 41 19 = du) := (hF_120 41 19 (fun q => q.elim (fun h => absurd h.2 (ni rfl)) (fun q => q.elim (fun h => absurd h.2 (ni rfl)) (fun h => absurd h.2 (ni rfl))))).trans ((up_c (nn rfl)).trans (hid kn_149))
  have h_151 : (up (up c_118 44 (4 * jr + 3) y_39) 41 16 (jr + 1)) 41 19 = du := ((up_n (by decide)).trans ((up_c (nn rfl)).trans (hid kn_150)))
  exact K (up (up c_118 44 (4 * jr + 3) y_39) 41 16 (jr + 1))  hI_128 (fun a j hm => (up_b (Decidable.or_iff_not_imp_left.mpr (fun h1 h2 => hm (Or.inr (Or.inr (Or.inr (Or.inl ⟨Decidable.not_not.mp h1, h2⟩))))))).trans ((up_b (Decidable.or_iff_not_imp_left.mpr (fun h1 h2 => hm (Or.inr (Or.inr (Or.inr (Or.inr (Or.inr (Or.inr (Or.inr (Or.inl (Decidable.not_not.mp h1)))))))))))).trans ((hF_120 a j (fun q => q.elim (fun h => hm (Or.inl h)) (fun q => q.elim (fun h => hm (Or.inr (Or.inl h))) (fun h => hm (Or.inr (Or.inr (Or.inl h))))))).trans ((up_b (Decidable.or_iff_not_imp_left.mpr (fun h1 h2 => hm (Or.inr (Or.inr (Or.inr (Or.inr (Or.inr (Or.inr (Or.inr (Or.inl (Decidable.not_not.mp h1)))))))))))).trans ((hF_107 a j (fun q => q.elim (fun h => hm (Or.inl h)) (fun q => q.elim (fun h => hm (Or.inr (Or.inl h))) (fun h => hm (Or.inr (Or.inr (Or.inl h))))))).trans ((up_b (Decidable.or_iff_not_imp_left.mpr (fun h1 h2 => hm (Or.inr (Or.inr (Or.inr (Or.inr (Or.inr (Or.inr (Or.inr (Or.inl (Decidable.not_not.mp h1)))))))))))).trans ((hF_94 a j (fun q => q.elim (fun h => hm (Or.inl h)) (fun q => q.elim (fun h => hm (Or.inr (Or.inl h))) (fun h => hm (Or.inr (Or.inr (Or.inl h))))))).trans ((up_b (Decidable.or_iff_not_imp_left.mpr (fun h1 h2 => hm (Or.inr (Or.inr (Or.inr (Or.inr (Or.inr (Or.inr (Or.inr (Or.inl (Decidable.not_not.mp h1)))))))))))).trans (hF_81 a j (fun q => q.elim (fun h => hm (Or.inl h)) (fun q => q.elim (fun h => hm (Or.inr (Or.inl h))) (fun h => hm (Or.inr (Or.inr (Or.inl h))))))))))))))) (by unfold Rt; omega) (by omega) (by omega) (by omega) (by omega)

set_option maxRecDepth 100000 in
set_option maxHeartbeats 4000000 in
theorem L_33_1 {sc : List Int32} {e eg : Int} {d dh u ug P Q P2 Q2 A : Nat} {c m m9 : ME} {e1 jr st si du : Int} {F H : Int → Int} {Z : AR → Prop} (hI : Iv u e P2 Q2 c) (hJ : Iv ug eg P Q m) (hJ9 : Iv ug eg P Q m9) (hA : A = 13 ∨ A = 25) (hq0 : (st ≤ 3)) (hg_e1 : m 1 1 = e1) (hr_e1 : c 41 3 = e1) (hg_jr : m A 0 = jr) (hr_jr : c 41 16 = jr) (hg_st : m A 1 = st) (hr_st : c 41 17 = st) (hg_si : m A 2 = si) (hr_si : c 41 18 = si) (hg_du : m A 3 = du) (hr_du : c 41 19 = du) (hF : ∀ j : Int, m 2 j = F j) (hH : ∀ j : Int, c 43 j = H j) (hU : Ub F H) (hRt : Rt m c) (hG : Wp sc (dh + 18) 33 0 [(0, .ref A), (1, .ref 1), (2, vi 1)] [] (Wd P Q P P m) 0 0 (fun q => q = (.inl (none), Wd P Q P P m9, 0, 0))) (K : ∀ (c2 : ME), Iv u e P2 Q2 c2 → (∀ (a : Nat) (j : Int), ¬ ((a = 41 ∧ j = 4) ∨ (a = 41 ∧ j = 5) ∨ (a = 41 ∧ j = 6) ∨ (a = 41 ∧ j = 16) ∨ (a = 41 ∧ j = 17) ∨ (a = 41 ∧ j = 18) ∨ (a = 41 ∧ j = 19) ∨ a = 44 ∨ a = 45 ∨ a = 46) → c2 a j = c a j) → (Rt m9 c2) → ((m9 A 0 = c2 41 16)) → ((m9 A 1 = c2 41 17)) → ((m9 A 2 = c2 41 18)) → ((m9 A 3 = c2 41 19)) → Z (.inl (none), Wd P2 Q2 P2 P2 c2, 0, 0)) : Wp sc (d + 18) 168 0 [(0, .ref 41), (1, vi 20594117)] [] (Wd P2 Q2 P2 P2 c) 0 0 Z := by
  have hP := iv_P hJ
  have hQ := iv_Q hJ
  have h_1 := ir_1_1 hJ
  have h_2 := ir_41_3 hI
  have h_3 := ir_p0_0 hJ hA
  have h_4 := ir_41_16 hI
  have h_5 := ir_p0_1 hJ hA
  have h_6 := ir_41_17 hI
  have h_7 := ir_p0_2 hJ hA
  have h_8 := ir_41_18 hI
  have h_9 := ir_p0_3 hJ hA
  have h_10 := ir_41_19 hI
  refine gh hG ?_
  refine q_iload_n rfl rfl ?_
  refine v_tsw_i (t := 59) 1 rfl (by omega) (by decide) rfl (by decide) ?_
  refine q_aload_n rfl rfl ?_
  refine q_aload_n rfl rfl ?_
  refine v_gr (t := (A + 2)) rfl rfl (ck_p0 hA) (by omega) rfl ?_
  refine q_aload_n rfl rfl ?_
  refine v_gi (z := 1) (v := st) rfl rfl (ck_p0 hA) (by omega) rfl rfl (hg_st) ?_
  refine q_iconst rfl ?_
  refine v_imul (v := 3 * st) rfl (by omega) ?_
  refine q_iconst rfl ?_
  refine v_bip rfl (by decide) ?_
  refine q_call rfl rfl rfl rfl ?_
  refine q_iload_n rfl rfl ?_
  refine q_istore rfl (by decide) ?_
  refine q_iload rfl rfl ?_
  refine q_iload_n rfl rfl ?_
  refine q_iload_n rfl rfl ?_
  refine v_iadd (v := 3 * st + 3) rfl (by omega) ?_
  refine v_ic_ge_f (t := 34) rfl (by decide) (by omega) ?_
  refine q_iload rfl rfl ?_
  refine q_aload_n rfl rfl ?_
  refine v_al rfl (ck_p2 hA) (by omega) (by decide) ?_
  refine v_ic_ge_f (t := 34) rfl (by decide) (by omega) ?_
  refine q_aload_n rfl rfl ?_
  refine q_iload rfl rfl ?_
  refine q_aload_n rfl rfl ?_
  refine q_iload rfl rfl ?_
  have h_11 := ir_1_4 hJ
  refine v_cv rfl rfl rfl rfl (by decide) ⟨⟨rfl, rfl⟩, by decide, rfl⟩ (Nat.le_of_ble_eq_true rfl) (Nat.le_of_ble_eq_true rfl) (fn_of (s_8 (a1 := 10) hJ (show (-1) ≤ 10 ∧ 10 ≤ 9999 from by omega) (fun c_12 y_15 hI_13 hF_14 hy_15 h_16 => ?_)))
  intro hG_17
  refine bk_inl ?_
  refine v_is rfl (ck_p2 hA) (by omega) (by decide) (by omega) ?_
  refine v_iinc (v := 3 * st + 1) rfl rfl (by decide) (by omega) ?_
  refine q_goto (t := 3) rfl (by decide) ?_
  refine q_iload rfl rfl ?_
  refine q_iload_n rfl rfl ?_
  refine q_iload_n rfl rfl ?_
  refine v_iadd (v := 3 * st + 3) rfl (by omega) ?_
  refine v_ic_ge_f (t := 34) rfl (by decide) (by omega) ?_
  refine q_iload rfl rfl ?_
  refine q_aload_n rfl rfl ?_
  refine v_al rfl (ck_p2 hA) (by omega) (by decide) ?_
  refine v_ic_ge_f (t := 34) rfl (by decide) (by omega) ?_
  refine q_aload_n rfl rfl ?_
  refine q_iload rfl rfl ?_
  refine q_aload_n rfl rfl ?_
  refine q_iload rfl rfl ?_
  have h_18 := ir_1_4 hI_13
  have hI_19 := iw_p2 (j := 3 * st) (v := y_15) hI_13 hA ⟨by omega, by omega⟩
  refine v_cv rfl rfl rfl rfl (by decide) ⟨⟨rfl, rfl⟩, by decide, rfl⟩ (Nat.le_of_ble_eq_true rfl) (Nat.le_of_ble_eq_true rfl) (fn_of (s_8 (a1 := 10) hI_19 (show (-1) ≤ 10 ∧ 10 ≤ 9999 from by omega) (fun c_20 y_23 hI_21 hF_22 hy_23 h_24 => ?_)))
  intro hG_25
  refine bk_inl ?_
  refine v_is rfl (ck_p2 hA) (by omega) (by decide) (by omega) ?_
  refine v_iinc (v := 3 * st + 2) rfl rfl (by decide) (by omega) ?_
  refine q_goto (t := 3) rfl (by decide) ?_
  refine q_iload rfl rfl ?_
  refine q_iload_n rfl rfl ?_
  refine q_iload_n rfl rfl ?_
  refine v_iadd (v := 3 * st + 3) rfl (by omega) ?_
  refine v_ic_ge_f (t := 34) rfl (by decide) (by omega) ?_
  refine q_iload rfl rfl ?_
  refine q_aload_n rfl rfl ?_
  refine v_al rfl (ck_p2 hA) (by omega) (by decide) ?_
  refine v_ic_ge_f (t := 34) rfl (by decide) (by omega) ?_
  refine q_aload_n rfl rfl ?_
  refine q_iload rfl rfl ?_
  refine q_aload_n rfl rfl ?_
  refine q_iload rfl rfl ?_
  have h_26 := ir_1_4 hI_21
  have hI_27 := iw_p2 (j := 3 * st + 1) (v := y_23) hI_21 hA ⟨by omega, by omega⟩
  refine v_cv rfl rfl rfl rfl (by decide) ⟨⟨rfl, rfl⟩, by decide, rfl⟩ (Nat.le_of_ble_eq_true rfl) (Nat.le_of_ble_eq_true rfl) (fn_of (s_8 (a1 := 10) hI_27 (show (-1) ≤ 10 ∧ 10 ≤ 9999 from by omega) (fun c_28 y_31 hI_29 hF_30 hy_31 h_32 => ?_)))
  intro hG_33
  refine bk_inl ?_
  refine v_is rfl (ck_p2 hA) (by omega) (by decide) (by omega) ?_
  refine v_iinc (v := 3 * st + 3) rfl rfl (by decide) (by omega) ?_
  refine q_goto (t := 3) rfl (by decide) ?_
  refine q_iload rfl rfl ?_
  refine q_iload_n rfl rfl ?_
  refine q_iload_n rfl rfl ?_
  refine v_iadd (v := 3 * st + 3) rfl (by omega) ?_
  refine v_ic_ge_t (t := 34) rfl (by decide) (by omega) ?_
  refine q_vret rfl rfl ?_
  refine bk_inl ?_
  refine q_aload_n rfl rfl ?_
  refine q_dup rfl rfl ?_
  have kn_34 : Hid (c_12 A 1 = st) := (hF_14 A 1 (fun q => q.elim (fun h => absurd h.1 (np0 hA rfl)) (fun q => q.elim (fun h => absurd h.1 (np0 hA rfl)) (fun h => absurd h.1 (np0 hA rfl))))).trans (hg_st)
  have kn_35 : Hid (c_20 A 1 = st) := (hF_22 A 1 (fun q => q.elim (fun h => absurd h.1 (np0 hA rfl)) (fun q => q.elim (fun h => absurd h.1 (np0 hA rfl)) (fun h => absurd h.1 (np0 hA rfl))))).trans ((up_c (p0p rfl)).trans (hid kn_34))
  have kn_36 : Hid (c_28 A 1 = st) := (hF_30 A 1 (fun q => q.elim (fun h => absurd h.1 (np0 hA rfl)) (fun q => q.elim (fun h => absurd h.1 (np0 hA rfl)) (fun h => absurd h.1 (np0 hA rfl))))).trans ((up_c (p0p rfl)).trans (hid kn_35))
  refine v_gi (z := 1) (v := st) rfl rfl (ck_p0 hA) (by omega) rfl rfl ((up_c (p0p rfl)).trans (hid kn_36)) ?_
  refine q_iconst rfl ?_
  refine v_iadd (v := st + 1) rfl (by omega) ?_
  refine v_pi (z := 1) rfl rfl (ck_p0 hA) (by omega) rfl rfl rfl (by decide) ?_
  refine q_goto (t := 126) rfl (by decide) ?_
  refine q_vret rfl rfl ?_
  have hI_37 := iw_p2 (j := 3 * st + 2) (v := y_31) hI_29 hA ⟨by omega, by omega⟩
  have hI_38 := iw_p0_1 (v := st + 1) hI_37 hA ⟨by omega, by omega⟩
  intro hE_39
  have hW : Wd P Q P P (up (up c_28 (A + 2) (3 * st + 2) y_31) A 1 (st + 1)) = Wd P Q P P m9 := (Prod.mk.inj (Prod.mk.inj hE_39).2).1
  have h_40 := ir_1_4 hI_29
  have h_41 := ir_1_4 hJ9
  have h_42 : m9 1 4 = c_28 1 4 := wd_fv (z := 4) 4 rfl hW rfl rfl rfl rfl (by decide) ((up_c (pn0 hA rfl)).trans (up_c (pn hA rfl rfl))) ⟨by omega, by omega⟩ ⟨by omega, by omega⟩
  have h_43 := ir_1_2 hI_29
  have h_44 := ir_1_2 hJ9
  have h_45 : m9 1 2 = c_28 1 2 := wd_fv (z := 2) 2 rfl hW rfl rfl rfl rfl (by decide) ((up_c (pn0 hA rfl)).trans (up_c (pn hA rfl rfl))) ⟨by omega, by omega⟩ ⟨by omega, by omega⟩
  have h_46 := ir_1_5 hI_29
  have h_47 := ir_1_5 hJ9
  have h_48 : m9 1 5 = c_28 1 5 := wd_fv (z := 5) 5 rfl hW rfl rfl rfl rfl (by decide) ((up_c (pn0 hA rfl)).trans (up_c (pn hA rfl rfl))) ⟨by omega, by omega⟩ ⟨by omega, by omega⟩
  have kn_49 : Hid (c_12 A 0 = jr) := (hF_14 A 0 (fun q => q.elim (fun h => absurd h.1 (np0 hA rfl)) (fun q => q.elim (fun h => absurd h.1 (np0 hA rfl)) (fun h => absurd h.1 (np0 hA rfl))))).trans (hg_jr)
  have kn_50 : Hid (c_20 A 0 = jr) := (hF_22 A 0 (fun q => q.elim (fun h => absurd h.1 (np0 hA rfl)) (fun q => q.elim (fun h => absurd h.1 (np0 hA rfl)) (fun h => absurd h.1 (np0 hA rfl))))).trans ((up_c (p0p rfl)).trans (hid kn_49))
  have kn_51 : Hid (c_28 A 0 = jr) := (hF_30 A 0 (fun q => q.elim (fun h => absurd h.1 (np0 hA rfl)) (fun q => q.elim (fun h => absurd h.1 (np0 hA rfl)) (fun h => absurd h.1 (np0 hA rfl))))).trans ((up_c (p0p rfl)).trans (hid kn_50))
  have h_52 := ir_p0_0 hJ9 hA
  have h_53 : m9 A 0 = jr := wd_fv (z := 0) 0 rfl hW (ck_p0 hA) (ck_p0 hA) rfl rfl (by omega) ((up_n (by decide)).trans ((up_c (p0p rfl)).trans (hid kn_51))) ⟨by omega, by omega⟩ ⟨by omega, by omega⟩
  have h_54 := ir_p0_1 hJ9 hA
  have h_55 : m9 A 1 = st + 1 := wd_fv (z := 1) 1 rfl hW (ck_p0 hA) (ck_p0 hA) rfl rfl (by omega) (up_e rfl) ⟨by omega, by omega⟩ ⟨by omega, by omega⟩
  have kn_56 : Hid (c_12 A 2 = si) := (hF_14 A 2 (fun q => q.elim (fun h => absurd h.1 (np0 hA rfl)) (fun q => q.elim (fun h => absurd h.1 (np0 hA rfl)) (fun h => absurd h.1 (np0 hA rfl))))).trans (hg_si)
  have kn_57 : Hid (c_20 A 2 = si) := (hF_22 A 2 (fun q => q.elim (fun h => absurd h.1 (np0 hA rfl)) (fun q => q.elim (fun h => absurd h.1 (np0 hA rfl)) (fun h => absurd h.1 (np0 hA rfl))))).trans ((up_c (p0p rfl)).trans (hid kn_56))
  have kn_58 : Hid (c_28 A 2 = si) := (hF_30 A 2 (fun q => q.elim (fun h => absurd h.1 (np0 hA rfl)) (fun q => q.elim (fun h => absurd h.1 (np0 hA rfl)) (fun h => absurd h.1 (np0 hA rfl))))).trans ((up_c (p0p rfl)).trans (hid kn_57))
  have h_59 := ir_p0_2 hJ9 hA
  have h_60 : m9 A 2 = si := wd_fv (z := 2) 2 rfl hW (ck_p0 hA) (ck_p0 hA) rfl rfl (by omega) ((up_n (by decide)).trans ((up_c (p0p rfl)).trans (hid kn_58))) ⟨by omega, by omega⟩ ⟨by omega, by omega⟩
  have kn_61 : Hid (c_12 A 3 = du) := (hF_14 A 3 (fun q => q.elim (fun h => absurd h.1 (np0 hA rfl)) (fun q => q.elim (fun h => absurd h.1 (np0 hA rfl)) (fun h => absurd h.1 (np0 hA rfl))))).trans (hg_du)
  have kn_62 : Hid (c_20 A 3 = du) := (hF_22 A 3 (fun q => q.elim (fun h => absurd h.1 (np0 hA rfl)) (fun q => q.elim (fun h => absurd h.1 (np0 hA rfl)) (fun h => absurd h.1 (np0 hA rfl))))).trans ((up_c (p0p rfl)).trans (hid kn_61))
  have kn_63 : Hid (c_28 A 3 = du) := (hF_30 A 3 (fun q => q.elim (fun h => absurd h.1 (np0 hA rfl)) (fun q => q.elim (fun h => absurd h.1 (np0 hA rfl)) (fun h => absurd h.1 (np0 hA rfl))))).trans ((up_c (p0p rfl)).trans (hid kn_62))
  have h_64 := ir_p0_3 hJ9 hA
  have h_65 : m9 A 3 = du := wd_fv (z := 3) 3 rfl hW (ck_p0 hA) (ck_p0 hA) rfl rfl (by omega) ((up_n (by decide)).trans ((up_c (p0p rfl)).trans (hid kn_63))) ⟨by omega, by omega⟩ ⟨by omega, by omega⟩
  refine q_iload_n rfl rfl ?_
  refine q_ldc_s rfl rfl rfl (by decide) ?_
  refine q_call rfl rfl rfl rfl (s_158_16 ?_)
  refine bk_inl ?_
  refine v_ic_ne_t (t := 56) rfl (by decide) (by decide) ?_
  refine q_iload_n rfl rfl ?_
  refine q_ldc_s rfl rfl rfl (by decide) ?_
  refine q_call rfl rfl rfl rfl (s_158_17 ?_)
  refine bk_inl ?_
  refine v_ic_ne_f (t := 111) rfl (by decide) (by decide) ?_
  refine q_iconst rfl ?_
  refine q_istore_n rfl (by decide) ?_
  refine q_iload_n rfl rfl ?_
  refine q_iconst rfl ?_
  refine v_ic_ge_f (t := 98) rfl (by decide) (by decide) ?_
  refine q_aload_n rfl rfl ?_
  refine v_gr (t := 45) rfl rfl rfl (by decide) rfl ?_
  refine q_iconst rfl ?_
  refine q_aload_n rfl rfl ?_
  refine v_gi (z := 17) (v := st) rfl rfl rfl (by decide) rfl rfl (hr_st) ?_
  refine v_imul (v := 3 * st) rfl (by omega) ?_
  refine q_iload_n rfl rfl ?_
  refine v_iadd (v := 3 * st) rfl (by omega) ?_
  refine q_aload_n rfl rfl ?_
  refine q_iconst rfl ?_
  refine v_bip rfl (by decide) ?_
  have h_66 := ir_1_2 hJ
  refine v_cv rfl rfl rfl rfl (by decide) ⟨⟨rfl, rfl⟩, by decide, rfl⟩ (Nat.le_of_ble_eq_true rfl) (Nat.le_of_ble_eq_true rfl) (L_8 (m := m) (a2 := 10) (yg := y_15) (e1 := e1) (a9 := m 1 2) (F := F) (H := H) hI hJ hI_13 (show (-1) ≤ 10 ∧ 10 ≤ 9999 from by omega) ⟨by omega, by omega⟩ ((hg_e1)) ((hr_e1)) (rfl) (fun j => hF j) (fun j => hH j) hU hRt hG_17 (fun c_67 y_70 hI_68 hF_69 hy_70 hR_71 h_72 h_73 => ?_))
  refine bk_inl ?_
  have hs_74 := h_72.symm
  subst hs_74
  have h_75 := ir_1_2 hI_13
  refine v_is rfl rfl (by decide) (by decide) (by omega) ?_
  refine v_iinc (v := 1) rfl rfl (by decide) (by decide) ?_
  refine q_goto (t := 67) rfl (by decide) ?_
  refine q_iload_n rfl rfl ?_
  refine q_iconst rfl ?_
  refine v_ic_ge_f (t := 98) rfl (by decide) (by decide) ?_
  refine q_aload_n rfl rfl ?_
  refine v_gr (t := 45) rfl rfl rfl (by decide) rfl ?_
  refine q_iconst rfl ?_
  refine q_aload_n rfl rfl ?_
  have kn_76 : Hid (c_67 41 17 = st) := (hF_69 41 17 (fun q => q.elim (fun h => absurd h.2 (ni rfl)) (fun q => q.elim (fun h => absurd h.2 (ni rfl)) (fun h => absurd h.2 (ni rfl))))).trans (hr_st)
  refine v_gi (z := 17) (v := st) rfl rfl rfl (by decide) rfl rfl ((up_c (nn rfl)).trans (hid kn_76)) ?_
  refine v_imul (v := 3 * st) rfl (by omega) ?_
  refine q_iload_n rfl rfl ?_
  refine v_iadd (v := 3 * st + 1) rfl (by omega) ?_
  refine q_aload_n rfl rfl ?_
  refine q_iconst rfl ?_
  refine v_bip rfl (by decide) ?_
  have hI_77 := iw_45 (j := 3 * st) (v := y_15) hI_68 ⟨by omega, by omega⟩
  have kn_78 : Hid (c_12 1 1 = e1) := (hF_14 1 1 (fun q => q.elim (fun h => absurd h.2 (ni rfl)) (fun q => q.elim (fun h => absurd h.2 (ni rfl)) (fun h => absurd h.2 (ni rfl))))).trans (hg_e1)
  have kn_79 : Hid (c_67 41 3 = e1) := (hF_69 41 3 (fun q => q.elim (fun h => absurd h.2 (ni rfl)) (fun q => q.elim (fun h => absurd h.2 (ni rfl)) (fun h => absurd h.2 (ni rfl))))).trans (hr_e1)
  refine v_cv rfl rfl rfl rfl (by decide) ⟨⟨rfl, rfl⟩, by decide, rfl⟩ (Nat.le_of_ble_eq_true rfl) (Nat.le_of_ble_eq_true rfl) (L_8 (m := up c_12 (A + 2) (3 * st) y_15) (a2 := 10) (yg := y_23) (e1 := e1) (a9 := c_12 1 2) (F := F) (H := H) hI_77 hI_19 hI_21 (show (-1) ≤ 10 ∧ 10 ≤ 9999 from by omega) ⟨by omega, by omega⟩ (((up_c (pn hA rfl rfl)).trans (hid kn_78))) (((up_c (nn rfl)).trans (hid kn_79))) ((up_c (pn hA rfl rfl))) (fun j => ((up_c (pn hA rfl rfl)).trans (hF_14 2 j (fun q => q.elim (fun h => absurd h.1 (nn rfl)) (fun q => q.elim (fun h => absurd h.1 (nn rfl)) (fun h => absurd h.1 (nn rfl)))))).trans (hF j)) (fun j => ((up_c (nn rfl)).trans (hF_69 43 j (fun q => q.elim (fun h => absurd h.1 (nn rfl)) (fun q => q.elim (fun h => absurd h.1 (nn rfl)) (fun h => absurd h.1 (nn rfl)))))).trans (hH j)) hU (rt_fr hR_71 (up_c (pn hA rfl rfl)) (up_c (pn hA rfl rfl)) (up_c (pn hA rfl rfl)) (up_c (nn rfl)) (up_c (nn rfl)) (up_c (nn rfl))) hG_25 (fun c_80 y_83 hI_81 hF_82 hy_83 hR_84 h_85 h_86 => ?_))
  refine bk_inl ?_
  have hs_87 := h_85.symm
  subst hs_87
  have h_88 := ir_1_2 hI_21
  refine v_is rfl rfl (by decide) (by decide) (by omega) ?_
  refine v_iinc (v := 2) rfl rfl (by decide) (by decide) ?_
  refine q_goto (t := 67) rfl (by decide) ?_
  refine q_iload_n rfl rfl ?_
  refine q_iconst rfl ?_
  refine v_ic_ge_f (t := 98) rfl (by decide) (by decide) ?_
  refine q_aload_n rfl rfl ?_
  refine v_gr (t := 45) rfl rfl rfl (by decide) rfl ?_
  refine q_iconst rfl ?_
  refine q_aload_n rfl rfl ?_
  have kn_89 : Hid (c_80 41 17 = st) := (hF_82 41 17 (fun q => q.elim (fun h => absurd h.2 (ni rfl)) (fun q => q.elim (fun h => absurd h.2 (ni rfl)) (fun h => absurd h.2 (ni rfl))))).trans ((up_c (nn rfl)).trans (hid kn_76))
  refine v_gi (z := 17) (v := st) rfl rfl rfl (by decide) rfl rfl ((up_c (nn rfl)).trans (hid kn_89)) ?_
  refine v_imul (v := 3 * st) rfl (by omega) ?_
  refine q_iload_n rfl rfl ?_
  refine v_iadd (v := 3 * st + 2) rfl (by omega) ?_
  refine q_aload_n rfl rfl ?_
  refine q_iconst rfl ?_
  refine v_bip rfl (by decide) ?_
  have hI_90 := iw_45 (j := 3 * st + 1) (v := y_23) hI_81 ⟨by omega, by omega⟩
  have kn_91 : Hid (c_20 1 1 = e1) := (hF_22 1 1 (fun q => q.elim (fun h => absurd h.2 (ni rfl)) (fun q => q.elim (fun h => absurd h.2 (ni rfl)) (fun h => absurd h.2 (ni rfl))))).trans ((up_c (pn hA rfl rfl)).trans (hid kn_78))
  have kn_92 : Hid (c_80 41 3 = e1) := (hF_82 41 3 (fun q => q.elim (fun h => absurd h.2 (ni rfl)) (fun q => q.elim (fun h => absurd h.2 (ni rfl)) (fun h => absurd h.2 (ni rfl))))).trans ((up_c (nn rfl)).trans (hid kn_79))
  refine v_cv rfl rfl rfl rfl (by decide) ⟨⟨rfl, rfl⟩, by decide, rfl⟩ (Nat.le_of_ble_eq_true rfl) (Nat.le_of_ble_eq_true rfl) (L_8 (m := up c_20 (A + 2) (3 * st + 1) y_23) (a2 := 10) (yg := y_31) (e1 := e1) (a9 := c_20 1 2) (F := F) (H := H) hI_90 hI_27 hI_29 (show (-1) ≤ 10 ∧ 10 ≤ 9999 from by omega) ⟨by omega, by omega⟩ (((up_c (pn hA rfl rfl)).trans (hid kn_91))) (((up_c (nn rfl)).trans (hid kn_92))) ((up_c (pn hA rfl rfl))) (fun j => ((up_c (pn hA rfl rfl)).trans ((hF_22 2 j (fun q => q.elim (fun h => absurd h.1 (nn rfl)) (fun q => q.elim (fun h => absurd h.1 (nn rfl)) (fun h => absurd h.1 (nn rfl))))).trans ((up_c (pn hA rfl rfl)).trans (hF_14 2 j (fun q => q.elim (fun h => absurd h.1 (nn rfl)) (fun q => q.elim (fun h => absurd h.1 (nn rfl)) (fun h => absurd h.1 (nn rfl)))))))).trans (hF j)) (fun j => ((up_c (nn rfl)).trans ((hF_82 43 j (fun q => q.elim (fun h => absurd h.1 (nn rfl)) (fun q => q.elim (fun h => absurd h.1 (nn rfl)) (fun h => absurd h.1 (nn rfl))))).trans ((up_c (nn rfl)).trans (hF_69 43 j (fun q => q.elim (fun h => absurd h.1 (nn rfl)) (fun q => q.elim (fun h => absurd h.1 (nn rfl)) (fun h => absurd h.1 (nn rfl)))))))).trans (hH j)) hU (rt_fr hR_84 (up_c (pn hA rfl rfl)) (up_c (pn hA rfl rfl)) (up_c (pn hA rfl rfl)) (up_c (nn rfl)) (up_c (nn rfl)) (up_c (nn rfl))) hG_33 (fun c_93 y_96 hI_94 hF_95 hy_96 hR_97 h_98 h_99 => ?_))
  refine bk_inl ?_
  have hs_100 := h_98.symm
  subst hs_100
  refine v_is rfl rfl (by decide) (by decide) (by omega) ?_
  refine v_iinc (v := 3) rfl rfl (by decide) (by decide) ?_
  refine q_goto (t := 67) rfl (by decide) ?_
  refine q_iload_n rfl rfl ?_
  refine q_iconst rfl ?_
  refine v_ic_ge_t (t := 98) rfl (by decide) (by decide) ?_
  refine q_aload_n rfl rfl ?_
  refine q_dup rfl rfl ?_
  have kn_101 : Hid (c_93 41 17 = st) := (hF_95 41 17 (fun q => q.elim (fun h => absurd h.2 (ni rfl)) (fun q => q.elim (fun h => absurd h.2 (ni rfl)) (fun h => absurd h.2 (ni rfl))))).trans ((up_c (nn rfl)).trans (hid kn_89))
  refine v_gi (z := 17) (v := st) rfl rfl rfl (by decide) rfl rfl ((up_c (nn rfl)).trans (hid kn_101)) ?_
  refine q_iconst rfl ?_
  refine v_iadd (v := st + 1) rfl (by omega) ?_
  refine v_pi (z := 17) rfl rfl rfl (by decide) rfl rfl rfl (by decide) ?_
  refine q_goto (t := 159) rfl (by decide) ?_
  refine q_vret rfl rfl ?_
  have hI_102 := iw_45 (j := 3 * st + 2) (v := y_31) hI_94 ⟨by omega, by omega⟩
  have hI_103 := iw_41_17 (v := st + 1) hI_102 ⟨by omega, by omega⟩
  have h_104 := ir_41_5 hI_94
  have h_105 := ir_41_4 hI_94
  have h_106 := ir_41_6 hI_94
  have h_107 := rt_or hR_97
  have h_108 : (up (up c_93 45 (3 * st + 2) y_31) 41 17 (st + 1)) 41 5 = c_93 41 5 := ((up_n (by decide)).trans (up_c (nn rfl)))
  have h_109 : (up (up c_93 45 (3 * st + 2) y_31) 41 17 (st + 1)) 41 4 = c_93 41 4 := ((up_n (by decide)).trans (up_c (nn rfl)))
  have h_110 : (up (up c_93 45 (3 * st + 2) y_31) 41 17 (st + 1)) 41 6 = c_93 41 6 := ((up_n (by decide)).trans (up_c (nn rfl)))
  have kn_111 : Hid (c_67 41 16 = jr) := (hF_69 41 16 (fun q => q.elim (fun h => absurd h.2 (ni rfl)) (fun q => q.elim (fun h => absurd h.2 (ni rfl)) (fun h => absurd h.2 (ni rfl))))).trans (hr_jr)
  have kn_112 : Hid (c_80 41 16 = jr) := (hF_82 41 16 (fun q => q.elim (fun h => absurd h.2 (ni rfl)) (fun q => q.elim (fun h => absurd h.2 (ni rfl)) (fun h => absurd h.2 (ni rfl))))).trans ((up_c (nn rfl)).trans (hid kn_111))
  have kn_113 : Hid (c_93 41 16 = jr) := (hF_95 41 16 (fun q => q.elim (fun h => absurd h.2 (ni rfl)) (fun q => q.elim (fun h => absurd h.2 (ni rfl)) (fun h => absurd h.2 (ni rfl))))).trans ((up_c (nn rfl)).trans (hid kn_112))
  have h_114 : (up (up c_93 45 (3 * st + 2) y_31) 41 17 (st + 1)) 41 16 = jr := ((up_n (by decide)).trans ((up_c (nn rfl)).trans (hid kn_113)))
  have h_115 : (up (up c_93 45 (3 * st + 2) y_31) 41 17 (st + 1)) 41 17 = st + 1 := (up_e rfl)
  have kn_116 : Hid (c_67 41 18 = si) := (hF_69 41 18 (fun q => q.elim (fun h => absurd h.2 (ni rfl)) (fun q => q.elim (fun h => absurd h.2 (ni rfl)) (fun h => absurd h.2 (ni rfl))))).trans (hr_si)
  have kn_117 : Hid (c_80 41 18 = si) := (hF_82 41 18 (fun q => q.elim (fun h => absurd h.2 (ni rfl)) (fun q => q.elim (fun h => absurd h.2 (ni rfl)) (fun h => absurd h.2 (ni rfl))))).trans ((up_c (nn rfl)).trans (hid kn_116))
  have kn_118 : Hid (c_93 41 18 = si) := (hF_95 41 18 (fun q => q.elim (fun h => absurd h.2 (ni rfl)) (fun q => q.elim (fun h => absurd h.2 (ni rfl)) (fun h => absurd h.2 (ni rfl))))).trans ((up_c (nn rfl)).trans (hid kn_117))
  have h_119 : (up (up c_93 45 (3 * st + 2) y_31) 41 17 (st + 1)) 41 18 = si := ((up_n (by decide)).trans ((up_c (nn rfl)).trans (hid kn_118)))
  have kn_120 : Hid (c_67 41 19 = du) := (hF_69 41 19 (fun q => q.elim (fun h => absurd h.2 (ni rfl)) (fun q => q.elim (fun h => absurd h.2 (ni rfl)) (fun h => absurd h.2 (ni rfl))))).trans (hr_du)
  have kn_121 : Hid (c_80 41 19 = du) := (hF_82 41 19 (fun q => q.elim (fun h => absurd h.2 (ni rfl)) (fun q => q.elim (fun h => absurd h.2 (ni rfl)) (fun h => absurd h.2 (ni rfl))))).trans ((up_c (nn rfl)).trans (hid kn_120))
  have kn_122 : Hid (c_93 41 19 = du) := (hF_95 41 19 (fun q => q.elim (fun h => absurd h.2 (ni rfl)) (fun q => q.elim (fun h => absurd h.2 (ni rfl)) (fun h => absurd h.2 (ni rfl))))).trans ((up_c (nn rfl)).trans (hid kn_121))
  have h_123 : (up (up c_93 45 (3 * st + 2) y_31) 41 17 (st + 1)) 41 19 = du := ((up_n (by decide)).trans ((up_c (nn rfl)).trans (hid kn_122)))
  exact K (up (up c_93 45 (3 * st + 2) y_31) 41 17 (st + 1))  hI_103 (fun a j hm => (up_b (Decidable.or_iff_not_imp_left.mpr (fun h1 h2 => hm (Or.inr (Or.inr (Or.inr (Or.inr (Or.inl ⟨Decidable.not_not.mp h1, h2⟩)))))))).trans ((up_b (Decidable.or_iff_not_imp_left.mpr (fun h1 h2 => hm (Or.inr (Or.inr (Or.inr (Or.inr (Or.inr (Or.inr (Or.inr (Or.inr (Or.inl (Decidable.not_not.mp h1))))))))))))).trans ((hF_95 a j (fun q => q.elim (fun h => hm (Or.inl h)) (fun q => q.elim (fun h => hm (Or.inr (Or.inl h))) (fun h => hm (Or.inr (Or.inr (Or.inl h))))))).trans ((up_b (Decidable.or_iff_not_imp_left.mpr (fun h1 h2 => hm (Or.inr (Or.inr (Or.inr (Or.inr (Or.inr (Or.inr (Or.inr (Or.inr (Or.inl (Decidable.not_not.mp h1))))))))))))).trans ((hF_82 a j (fun q => q.elim (fun h => hm (Or.inl h)) (fun q => q.elim (fun h => hm (Or.inr (Or.inl h))) (fun h => hm (Or.inr (Or.inr (Or.inl h))))))).trans ((up_b (Decidable.or_iff_not_imp_left.mpr (fun h1 h2 => hm (Or.inr (Or.inr (Or.inr (Or.inr (Or.inr (Or.inr (Or.inr (Or.inr (Or.inl (Decidable.not_not.mp h1))))))))))))).trans (hF_69 a j (fun q => q.elim (fun h => hm (Or.inl h)) (fun q => q.elim (fun h => hm (Or.inr (Or.inl h))) (fun h => hm (Or.inr (Or.inr (Or.inl h))))))))))))) (by unfold Rt; omega) (by omega) (by omega) (by omega) (by omega)

set_option maxRecDepth 100000 in
set_option maxHeartbeats 4000000 in
theorem L_33_2 {sc : List Int32} {e eg : Int} {d dh u ug P Q P2 Q2 A : Nat} {c m m9 : ME} {e1 jr st si du : Int} {F H : Int → Int} {Z : AR → Prop} (hI : Iv u e P2 Q2 c) (hJ : Iv ug eg P Q m) (hJ9 : Iv ug eg P Q m9) (hA : A = 13 ∨ A = 25) (hq0 : (si ≤ 3)) (hg_e1 : m 1 1 = e1) (hr_e1 : c 41 3 = e1) (hg_jr : m A 0 = jr) (hr_jr : c 41 16 = jr) (hg_st : m A 1 = st) (hr_st : c 41 17 = st) (hg_si : m A 2 = si) (hr_si : c 41 18 = si) (hg_du : m A 3 = du) (hr_du : c 41 19 = du) (hF : ∀ j : Int, m 2 j = F j) (hH : ∀ j : Int, c 43 j = H j) (hU : Ub F H) (hRt : Rt m c) (hG : Wp sc (dh + 18) 33 0 [(0, .ref A), (1, .ref 1), (2, vi 2)] [] (Wd P Q P P m) 0 0 (fun q => q = (.inl (none), Wd P Q P P m9, 0, 0))) (K : ∀ (c2 : ME), Iv u e P2 Q2 c2 → (∀ (a : Nat) (j : Int), ¬ ((a = 41 ∧ j = 4) ∨ (a = 41 ∧ j = 5) ∨ (a = 41 ∧ j = 6) ∨ (a = 41 ∧ j = 16) ∨ (a = 41 ∧ j = 17) ∨ (a = 41 ∧ j = 18) ∨ (a = 41 ∧ j = 19) ∨ a = 44 ∨ a = 45 ∨ a = 46) → c2 a j = c a j) → (Rt m9 c2) → ((m9 A 0 = c2 41 16)) → ((m9 A 1 = c2 41 17)) → ((m9 A 2 = c2 41 18)) → ((m9 A 3 = c2 41 19)) → Z (.inl (none), Wd P2 Q2 P2 P2 c2, 0, 0)) : Wp sc (d + 18) 168 0 [(0, .ref 41), (1, vi 20223685)] [] (Wd P2 Q2 P2 P2 c) 0 0 Z := by
  have hP := iv_P hJ
  have hQ := iv_Q hJ
  have h_1 := ir_1_1 hJ
  have h_2 := ir_41_3 hI
  have h_3 := ir_p0_0 hJ hA
  have h_4 := ir_41_16 hI
  have h_5 := ir_p0_1 hJ hA
  have h_6 := ir_41_17 hI
  have h_7 := ir_p0_2 hJ hA
  have h_8 := ir_41_18 hI
  have h_9 := ir_p0_3 hJ hA
  have h_10 := ir_41_19 hI
  refine gh hG ?_
  refine q_iload_n rfl rfl ?_
  refine v_tsw_i (t := 89) 2 rfl (by omega) (by decide) rfl (by decide) ?_
  refine q_aload_n rfl rfl ?_
  refine q_aload_n rfl rfl ?_
  refine v_gr (t := (A + 3)) rfl rfl (ck_p0 hA) (by omega) rfl ?_
  refine q_aload_n rfl rfl ?_
  refine v_gi (z := 2) (v := si) rfl rfl (ck_p0 hA) (by omega) rfl rfl (hg_si) ?_
  refine q_iconst rfl ?_
  refine q_iconst rfl ?_
  refine q_call rfl rfl rfl rfl ?_
  refine q_iload_n rfl rfl ?_
  refine q_istore rfl (by decide) ?_
  refine q_iload rfl rfl ?_
  refine q_iload_n rfl rfl ?_
  refine q_iload_n rfl rfl ?_
  refine v_iadd (v := si + 1) rfl (by omega) ?_
  refine v_ic_ge_f (t := 34) rfl (by decide) (by omega) ?_
  refine q_iload rfl rfl ?_
  refine q_aload_n rfl rfl ?_
  refine v_al rfl (ck_p3 hA) (by omega) (by decide) ?_
  refine v_ic_ge_f (t := 34) rfl (by decide) (by omega) ?_
  refine q_aload_n rfl rfl ?_
  refine q_iload rfl rfl ?_
  refine q_aload_n rfl rfl ?_
  refine q_iload rfl rfl ?_
  have h_11 := ir_1_4 hJ
  refine v_cv rfl rfl rfl rfl (by decide) ⟨⟨rfl, rfl⟩, by decide, rfl⟩ (Nat.le_of_ble_eq_true rfl) (Nat.le_of_ble_eq_true rfl) (fn_of (s_8 (a1 := 2) hJ (show (-1) ≤ 2 ∧ 2 ≤ 9999 from by omega) (fun c_12 y_15 hI_13 hF_14 hy_15 h_16 => ?_)))
  intro hG_17
  refine bk_inl ?_
  refine v_is rfl (ck_p3 hA) (by omega) (by decide) (by omega) ?_
  refine v_iinc (v := si + 1) rfl rfl (by decide) (by omega) ?_
  refine q_goto (t := 3) rfl (by decide) ?_
  refine q_iload rfl rfl ?_
  refine q_iload_n rfl rfl ?_
  refine q_iload_n rfl rfl ?_
  refine v_iadd (v := si + 1) rfl (by omega) ?_
  refine v_ic_ge_t (t := 34) rfl (by decide) (by omega) ?_
  refine q_vret rfl rfl ?_
  refine bk_inl ?_
  refine q_aload_n rfl rfl ?_
  refine q_dup rfl rfl ?_
  have kn_18 : Hid (c_12 A 2 = si) := (hF_14 A 2 (fun q => q.elim (fun h => absurd h.1 (np0 hA rfl)) (fun q => q.elim (fun h => absurd h.1 (np0 hA rfl)) (fun h => absurd h.1 (np0 hA rfl))))).trans (hg_si)
  refine v_gi (z := 2) (v := si) rfl rfl (ck_p0 hA) (by omega) rfl rfl ((up_c (p0p rfl)).trans (hid kn_18)) ?_
  refine q_iconst rfl ?_
  refine v_iadd (v := si + 1) rfl (by omega) ?_
  refine v_pi (z := 2) rfl rfl (ck_p0 hA) (by omega) rfl rfl rfl (by decide) ?_
  refine q_goto (t := 126) rfl (by decide) ?_
  refine q_vret rfl rfl ?_
  have hI_19 := iw_p3 (j := si) (v := y_15) hI_13 hA ⟨by omega, by omega⟩
  have hI_20 := iw_p0_2 (v := si + 1) hI_19 hA ⟨by omega, by omega⟩
  intro hE_21
  have hW : Wd P Q P P (up (up c_12 (A + 3) si y_15) A 2 (si + 1)) = Wd P Q P P m9 := (Prod.mk.inj (Prod.mk.inj hE_21).2).1
  have h_22 := ir_1_4 hI_13
  have h_23 := ir_1_4 hJ9
  have h_24 : m9 1 4 = c_12 1 4 := wd_fv (z := 4) 4 rfl hW rfl rfl rfl rfl (by decide) ((up_c (pn0 hA rfl)).trans (up_c (pn hA rfl rfl))) ⟨by omega, by omega⟩ ⟨by omega, by omega⟩
  have h_25 := ir_1_2 hI_13
  have h_26 := ir_1_2 hJ9
  have h_27 : m9 1 2 = c_12 1 2 := wd_fv (z := 2) 2 rfl hW rfl rfl rfl rfl (by decide) ((up_c (pn0 hA rfl)).trans (up_c (pn hA rfl rfl))) ⟨by omega, by omega⟩ ⟨by omega, by omega⟩
  have h_28 := ir_1_5 hI_13
  have h_29 := ir_1_5 hJ9
  have h_30 : m9 1 5 = c_12 1 5 := wd_fv (z := 5) 5 rfl hW rfl rfl rfl rfl (by decide) ((up_c (pn0 hA rfl)).trans (up_c (pn hA rfl rfl))) ⟨by omega, by omega⟩ ⟨by omega, by omega⟩
  have kn_31 : Hid (c_12 A 0 = jr) := (hF_14 A 0 (fun q => q.elim (fun h => absurd h.1 (np0 hA rfl)) (fun q => q.elim (fun h => absurd h.1 (np0 hA rfl)) (fun h => absurd h.1 (np0 hA rfl))))).trans (hg_jr)
  have h_32 := ir_p0_0 hJ9 hA
  have h_33 : m9 A 0 = jr := wd_fv (z := 0) 0 rfl hW (ck_p0 hA) (ck_p0 hA) rfl rfl (by omega) ((up_n (by decide)).trans ((up_c (p0p rfl)).trans (hid kn_31))) ⟨by omega, by omega⟩ ⟨by omega, by omega⟩
  have kn_34 : Hid (c_12 A 1 = st) := (hF_14 A 1 (fun q => q.elim (fun h => absurd h.1 (np0 hA rfl)) (fun q => q.elim (fun h => absurd h.1 (np0 hA rfl)) (fun h => absurd h.1 (np0 hA rfl))))).trans (hg_st)
  have h_35 := ir_p0_1 hJ9 hA
  have h_36 : m9 A 1 = st := wd_fv (z := 1) 1 rfl hW (ck_p0 hA) (ck_p0 hA) rfl rfl (by omega) ((up_n (by decide)).trans ((up_c (p0p rfl)).trans (hid kn_34))) ⟨by omega, by omega⟩ ⟨by omega, by omega⟩
  have h_37 := ir_p0_2 hJ9 hA
  have h_38 : m9 A 2 = si + 1 := wd_fv (z := 2) 2 rfl hW (ck_p0 hA) (ck_p0 hA) rfl rfl (by omega) (up_e rfl) ⟨by omega, by omega⟩ ⟨by omega, by omega⟩
  have kn_39 : Hid (c_12 A 3 = du) := (hF_14 A 3 (fun q => q.elim (fun h => absurd h.1 (np0 hA rfl)) (fun q => q.elim (fun h => absurd h.1 (np0 hA rfl)) (fun h => absurd h.1 (np0 hA rfl))))).trans (hg_du)
  have h_40 := ir_p0_3 hJ9 hA
  have h_41 : m9 A 3 = du := wd_fv (z := 3) 3 rfl hW (ck_p0 hA) (ck_p0 hA) rfl rfl (by omega) ((up_n (by decide)).trans ((up_c (p0p rfl)).trans (hid kn_39))) ⟨by omega, by omega⟩ ⟨by omega, by omega⟩
  refine q_iload_n rfl rfl ?_
  refine q_ldc_s rfl rfl rfl (by decide) ?_
  refine q_call rfl rfl rfl rfl (s_158_16 ?_)
  refine bk_inl ?_
  refine v_ic_ne_t (t := 56) rfl (by decide) (by decide) ?_
  refine q_iload_n rfl rfl ?_
  refine q_ldc_s rfl rfl rfl (by decide) ?_
  refine q_call rfl rfl rfl rfl (s_158_17 ?_)
  refine bk_inl ?_
  refine v_ic_ne_t (t := 111) rfl (by decide) (by decide) ?_
  refine q_iload_n rfl rfl ?_
  refine q_ldc_s rfl rfl rfl (by decide) ?_
  refine q_call rfl rfl rfl rfl (s_158_18 ?_)
  refine bk_inl ?_
  refine v_ic_ne_f (t := 148) rfl (by decide) (by decide) ?_
  refine q_aload_n rfl rfl ?_
  refine v_gr (t := 46) rfl rfl rfl (by decide) rfl ?_
  refine q_aload_n rfl rfl ?_
  refine v_gi (z := 18) (v := si) rfl rfl rfl (by decide) rfl rfl (hr_si) ?_
  refine q_aload_n rfl rfl ?_
  refine q_iconst rfl ?_
  refine q_iconst rfl ?_
  have h_42 := ir_1_2 hJ
  refine v_cv rfl rfl rfl rfl (by decide) ⟨⟨rfl, rfl⟩, by decide, rfl⟩ (Nat.le_of_ble_eq_true rfl) (Nat.le_of_ble_eq_true rfl) (L_8 (m := m) (a2 := 2) (yg := y_15) (e1 := e1) (a9 := m 1 2) (F := F) (H := H) hI hJ hI_13 (show (-1) ≤ 2 ∧ 2 ≤ 9999 from by omega) ⟨by omega, by omega⟩ ((hg_e1)) ((hr_e1)) (rfl) (fun j => hF j) (fun j => hH j) hU hRt hG_17 (fun c_43 y_46 hI_44 hF_45 hy_46 hR_47 h_48 h_49 => ?_))
  refine bk_inl ?_
  have hs_50 := h_48.symm
  subst hs_50
  refine v_is rfl rfl (by decide) (by decide) (by omega) ?_
  refine q_aload_n rfl rfl ?_
  refine q_dup rfl rfl ?_
  have kn_51 : Hid (c_43 41 18 = si) := (hF_45 41 18 (fun q => q.elim (fun h => absurd h.2 (ni rfl)) (fun q => q.elim (fun h => absurd h.2 (ni rfl)) (fun h => absurd h.2 (ni rfl))))).trans (hr_si)
  refine v_gi (z := 18) (v := si) rfl rfl rfl (by decide) rfl rfl ((up_c (nn rfl)).trans (hid kn_51)) ?_
  refine q_iconst rfl ?_
  refine v_iadd (v := si + 1) rfl (by omega) ?_
  refine v_pi (z := 18) rfl rfl rfl (by decide) rfl rfl rfl (by decide) ?_
  refine q_goto (t := 159) rfl (by decide) ?_
  refine q_vret rfl rfl ?_
  have hI_52 := iw_46 (j := si) (v := y_15) hI_44 ⟨by omega, by omega⟩
  have hI_53 := iw_41_18 (v := si + 1) hI_52 ⟨by omega, by omega⟩
  have h_54 := ir_41_5 hI_44
  have h_55 := ir_41_4 hI_44
  have h_56 := ir_41_6 hI_44
  have h_57 := rt_or hR_47
  have h_58 : (up (up c_43 46 si y_15) 41 18 (si + 1)) 41 5 = c_43 41 5 := ((up_n (by decide)).trans (up_c (nn rfl)))
  have h_59 : (up (up c_43 46 si y_15) 41 18 (si + 1)) 41 4 = c_43 41 4 := ((up_n (by decide)).trans (up_c (nn rfl)))
  have h_60 : (up (up c_43 46 si y_15) 41 18 (si + 1)) 41 6 = c_43 41 6 := ((up_n (by decide)).trans (up_c (nn rfl)))
  have kn_61 : Hid (c_43 41 16 = jr) := (hF_45 41 16 (fun q => q.elim (fun h => absurd h.2 (ni rfl)) (fun q => q.elim (fun h => absurd h.2 (ni rfl)) (fun h => absurd h.2 (ni rfl))))).trans (hr_jr)
  have h_62 : (up (up c_43 46 si y_15) 41 18 (si + 1)) 41 16 = jr := ((up_n (by decide)).trans ((up_c (nn rfl)).trans (hid kn_61)))
  have kn_63 : Hid (c_43 41 17 = st) := (hF_45 41 17 (fun q => q.elim (fun h => absurd h.2 (ni rfl)) (fun q => q.elim (fun h => absurd h.2 (ni rfl)) (fun h => absurd h.2 (ni rfl))))).trans (hr_st)
  have h_64 : (up (up c_43 46 si y_15) 41 18 (si + 1)) 41 17 = st := ((up_n (by decide)).trans ((up_c (nn rfl)).trans (hid kn_63)))
  have h_65 : (up (up c_43 46 si y_15) 41 18 (si + 1)) 41 18 = si + 1 := (up_e rfl)
  have kn_66 : Hid (c_43 41 19 = du) := (hF_45 41 19 (fun q => q.elim (fun h => absurd h.2 (ni rfl)) (fun q => q.elim (fun h => absurd h.2 (ni rfl)) (fun h => absurd h.2 (ni rfl))))).trans (hr_du)
  have h_67 : (up (up c_43 46 si y_15) 41 18 (si + 1)) 41 19 = du := ((up_n (by decide)).trans ((up_c (nn rfl)).trans (hid kn_66)))
  exact K (up (up c_43 46 si y_15) 41 18 (si + 1))  hI_53 (fun a j hm => (up_b (Decidable.or_iff_not_imp_left.mpr (fun h1 h2 => hm (Or.inr (Or.inr (Or.inr (Or.inr (Or.inr (Or.inl ⟨Decidable.not_not.mp h1, h2⟩))))))))).trans ((up_b (Decidable.or_iff_not_imp_left.mpr (fun h1 h2 => hm (Or.inr (Or.inr (Or.inr (Or.inr (Or.inr (Or.inr (Or.inr (Or.inr (Or.inr (Decidable.not_not.mp h1))))))))))))).trans (hF_45 a j (fun q => q.elim (fun h => hm (Or.inl h)) (fun q => q.elim (fun h => hm (Or.inr (Or.inl h))) (fun h => hm (Or.inr (Or.inr (Or.inl h))))))))) (by unfold Rt; omega) (by omega) (by omega) (by omega) (by omega)

set_option maxRecDepth 100000 in
set_option maxHeartbeats 4000000 in
theorem L_33_3 {sc : List Int32} {e eg : Int} {d dh u ug P Q P2 Q2 A : Nat} {c m m9 : ME} {e1 jr st si du : Int} {F H : Int → Int} {Z : AR → Prop} (hI : Iv u e P2 Q2 c) (hJ : Iv ug eg P Q m) (hJ9 : Iv ug eg P Q m9) (hA : A = 13 ∨ A = 25) (hg_e1 : m 1 1 = e1) (hr_e1 : c 41 3 = e1) (hg_jr : m A 0 = jr) (hr_jr : c 41 16 = jr) (hg_st : m A 1 = st) (hr_st : c 41 17 = st) (hg_si : m A 2 = si) (hr_si : c 41 18 = si) (hg_du : m A 3 = du) (hr_du : c 41 19 = du) (hF : ∀ j : Int, m 2 j = F j) (hH : ∀ j : Int, c 43 j = H j) (hU : Ub F H) (hRt : Rt m c) (hG : Wp sc (dh + 18) 33 0 [(0, .ref A), (1, .ref 1), (2, vi 3)] [] (Wd P Q P P m) 0 0 (fun q => q = (.inl (none), Wd P Q P P m9, 0, 0))) (K : ∀ (c2 : ME), Iv u e P2 Q2 c2 → (∀ (a : Nat) (j : Int), ¬ ((a = 41 ∧ j = 4) ∨ (a = 41 ∧ j = 5) ∨ (a = 41 ∧ j = 6) ∨ (a = 41 ∧ j = 16) ∨ (a = 41 ∧ j = 17) ∨ (a = 41 ∧ j = 18) ∨ (a = 41 ∧ j = 19) ∨ a = 44 ∨ a = 45 ∨ a = 46) → c2 a j = c a j) → (Rt m9 c2) → ((m9 A 0 = c2 41 16)) → ((m9 A 1 = c2 41 17)) → ((m9 A 2 = c2 41 18)) → ((m9 A 3 = c2 41 19)) → Z (.inl (none), Wd P2 Q2 P2 P2 c2, 0, 0)) : Wp sc (d + 18) 168 0 [(0, .ref 41), (1, vi 153204)] [] (Wd P2 Q2 P2 P2 c) 0 0 Z := by
  have hP := iv_P hJ
  have hQ := iv_Q hJ
  have h_1 := ir_1_1 hJ
  have h_2 := ir_41_3 hI
  have h_3 := ir_p0_0 hJ hA
  have h_4 := ir_41_16 hI
  have h_5 := ir_p0_1 hJ hA
  have h_6 := ir_41_17 hI
  have h_7 := ir_p0_2 hJ hA
  have h_8 := ir_41_18 hI
  have h_9 := ir_p0_3 hJ hA
  have h_10 := ir_41_19 hI
  refine gh hG ?_
  refine q_iload_n rfl rfl ?_
  refine v_tsw_o (t := 116) rfl (by omega) (by decide) ?_
  refine q_aload_n rfl rfl ?_
  refine q_aload_n rfl rfl ?_
  refine v_bip rfl (by decide) ?_
  have h_11 := ir_1_4 hJ
  refine v_cv rfl rfl rfl rfl (by decide) ⟨⟨rfl, rfl⟩, by decide, rfl⟩ (Nat.le_of_ble_eq_true rfl) (Nat.le_of_ble_eq_true rfl) (fn_of (s_8 (a1 := 50) hJ (show (-1) ≤ 50 ∧ 50 ≤ 9999 from by omega) (fun c_12 y_15 hI_13 hF_14 hy_15 h_16 => ?_)))
  intro hG_17
  refine bk_inl ?_
  refine v_pi (z := 3) rfl rfl (ck_p0 hA) (by omega) rfl rfl rfl (by decide) ?_
  refine q_vret rfl rfl ?_
  have hI_18 := iw_p0_3 (v := y_15) hI_13 hA ⟨by omega, by omega⟩
  intro hE_19
  have hW : Wd P Q P P (up c_12 A 3 y_15) = Wd P Q P P m9 := (Prod.mk.inj (Prod.mk.inj hE_19).2).1
  have h_20 := ir_1_4 hI_13
  have h_21 := ir_1_4 hJ9
  have h_22 : m9 1 4 = c_12 1 4 := wd_fv (z := 4) 4 rfl hW rfl rfl rfl rfl (by decide) (up_c (pn0 hA rfl)) ⟨by omega, by omega⟩ ⟨by omega, by omega⟩
  have h_23 := ir_1_2 hI_13
  have h_24 := ir_1_2 hJ9
  have h_25 : m9 1 2 = c_12 1 2 := wd_fv (z := 2) 2 rfl hW rfl rfl rfl rfl (by decide) (up_c (pn0 hA rfl)) ⟨by omega, by omega⟩ ⟨by omega, by omega⟩
  have h_26 := ir_1_5 hI_13
  have h_27 := ir_1_5 hJ9
  have h_28 : m9 1 5 = c_12 1 5 := wd_fv (z := 5) 5 rfl hW rfl rfl rfl rfl (by decide) (up_c (pn0 hA rfl)) ⟨by omega, by omega⟩ ⟨by omega, by omega⟩
  have kn_29 : Hid (c_12 A 0 = jr) := (hF_14 A 0 (fun q => q.elim (fun h => absurd h.1 (np0 hA rfl)) (fun q => q.elim (fun h => absurd h.1 (np0 hA rfl)) (fun h => absurd h.1 (np0 hA rfl))))).trans (hg_jr)
  have h_30 := ir_p0_0 hJ9 hA
  have h_31 : m9 A 0 = jr := wd_fv (z := 0) 0 rfl hW (ck_p0 hA) (ck_p0 hA) rfl rfl (by omega) ((up_n (by decide)).trans (hid kn_29)) ⟨by omega, by omega⟩ ⟨by omega, by omega⟩
  have kn_32 : Hid (c_12 A 1 = st) := (hF_14 A 1 (fun q => q.elim (fun h => absurd h.1 (np0 hA rfl)) (fun q => q.elim (fun h => absurd h.1 (np0 hA rfl)) (fun h => absurd h.1 (np0 hA rfl))))).trans (hg_st)
  have h_33 := ir_p0_1 hJ9 hA
  have h_34 : m9 A 1 = st := wd_fv (z := 1) 1 rfl hW (ck_p0 hA) (ck_p0 hA) rfl rfl (by omega) ((up_n (by decide)).trans (hid kn_32)) ⟨by omega, by omega⟩ ⟨by omega, by omega⟩
  have kn_35 : Hid (c_12 A 2 = si) := (hF_14 A 2 (fun q => q.elim (fun h => absurd h.1 (np0 hA rfl)) (fun q => q.elim (fun h => absurd h.1 (np0 hA rfl)) (fun h => absurd h.1 (np0 hA rfl))))).trans (hg_si)
  have h_36 := ir_p0_2 hJ9 hA
  have h_37 : m9 A 2 = si := wd_fv (z := 2) 2 rfl hW (ck_p0 hA) (ck_p0 hA) rfl rfl (by omega) ((up_n (by decide)).trans (hid kn_35)) ⟨by omega, by omega⟩ ⟨by omega, by omega⟩
  have h_38 := ir_p0_3 hJ9 hA
  have h_39 : m9 A 3 = y_15 := wd_fv (z := 3) 3 rfl hW (ck_p0 hA) (ck_p0 hA) rfl rfl (by omega) (up_e rfl) ⟨by omega, by omega⟩ ⟨by omega, by omega⟩
  refine q_iload_n rfl rfl ?_
  refine q_ldc_s rfl rfl rfl (by decide) ?_
  refine q_call rfl rfl rfl rfl (s_158_16 ?_)
  refine bk_inl ?_
  refine v_ic_ne_t (t := 56) rfl (by decide) (by decide) ?_
  refine q_iload_n rfl rfl ?_
  refine q_ldc_s rfl rfl rfl (by decide) ?_
  refine q_call rfl rfl rfl rfl (s_158_17 ?_)
  refine bk_inl ?_
  refine v_ic_ne_t (t := 111) rfl (by decide) (by decide) ?_
  refine q_iload_n rfl rfl ?_
  refine q_ldc_s rfl rfl rfl (by decide) ?_
  refine q_call rfl rfl rfl rfl (s_158_18 ?_)
  refine bk_inl ?_
  refine v_ic_ne_t (t := 148) rfl (by decide) (by decide) ?_
  refine q_aload_n rfl rfl ?_
  refine q_aload_n rfl rfl ?_
  refine q_iconst rfl ?_
  refine v_bip rfl (by decide) ?_
  have h_40 := ir_1_2 hJ
  refine v_cv rfl rfl rfl rfl (by decide) ⟨⟨rfl, rfl⟩, by decide, rfl⟩ (Nat.le_of_ble_eq_true rfl) (Nat.le_of_ble_eq_true rfl) (L_8 (m := m) (a2 := 50) (yg := y_15) (e1 := e1) (a9 := m 1 2) (F := F) (H := H) hI hJ hI_13 (show (-1) ≤ 50 ∧ 50 ≤ 9999 from by omega) ⟨by omega, by omega⟩ ((hg_e1)) ((hr_e1)) (rfl) (fun j => hF j) (fun j => hH j) hU hRt hG_17 (fun c_41 y_44 hI_42 hF_43 hy_44 hR_45 h_46 h_47 => ?_))
  refine bk_inl ?_
  have hs_48 := h_46.symm
  subst hs_48
  refine v_pi (z := 19) rfl rfl rfl (by decide) rfl rfl rfl (by decide) ?_
  refine q_vret rfl rfl ?_
  have hI_49 := iw_41_19 (v := y_15) hI_42 ⟨by omega, by omega⟩
  have h_50 := ir_41_5 hI_42
  have h_51 := ir_41_4 hI_42
  have h_52 := ir_41_6 hI_42
  have h_53 := rt_or hR_45
  have h_54 : (up c_41 41 19 y_15) 41 5 = c_41 41 5 := (up_n (by decide))
  have h_55 : (up c_41 41 19 y_15) 41 4 = c_41 41 4 := (up_n (by decide))
  have h_56 : (up c_41 41 19 y_15) 41 6 = c_41 41 6 := (up_n (by decide))
  have kn_57 : Hid (c_41 41 16 = jr) := (hF_43 41 16 (fun q => q.elim (fun h => absurd h.2 (ni rfl)) (fun q => q.elim (fun h => absurd h.2 (ni rfl)) (fun h => absurd h.2 (ni rfl))))).trans (hr_jr)
  have h_58 : (up c_41 41 19 y_15) 41 16 = jr := ((up_n (by decide)).trans (hid kn_57))
  have kn_59 : Hid (c_41 41 17 = st) := (hF_43 41 17 (fun q => q.elim (fun h => absurd h.2 (ni rfl)) (fun q => q.elim (fun h => absurd h.2 (ni rfl)) (fun h => absurd h.2 (ni rfl))))).trans (hr_st)
  have h_60 : (up c_41 41 19 y_15) 41 17 = st := ((up_n (by decide)).trans (hid kn_59))
  have kn_61 : Hid (c_41 41 18 = si) := (hF_43 41 18 (fun q => q.elim (fun h => absurd h.2 (ni rfl)) (fun q => q.elim (fun h => absurd h.2 (ni rfl)) (fun h => absurd h.2 (ni rfl))))).trans (hr_si)
  have h_62 : (up c_41 41 19 y_15) 41 18 = si := ((up_n (by decide)).trans (hid kn_61))
  have h_63 : (up c_41 41 19 y_15) 41 19 = y_15 := (up_e rfl)
  exact K (up c_41 41 19 y_15)  hI_49 (fun a j hm => (up_b (Decidable.or_iff_not_imp_left.mpr (fun h1 h2 => hm (Or.inr (Or.inr (Or.inr (Or.inr (Or.inr (Or.inr (Or.inl ⟨Decidable.not_not.mp h1, h2⟩)))))))))).trans (hF_43 a j (fun q => q.elim (fun h => hm (Or.inl h)) (fun q => q.elim (fun h => hm (Or.inr (Or.inl h))) (fun h => hm (Or.inr (Or.inr (Or.inl h)))))))) (by unfold Rt; omega) (by omega) (by omega) (by omega) (by omega)

set_option maxRecDepth 100000 in
set_option maxHeartbeats 4000000 in
theorem L_34_l {sc : List Int32} {e eg : Int} {d dh u ug P Q P2 Q2 A : Nat} {c m m9 : ME} {a1 e1 f0 g0 z0 z1 z2 z3 : Int} {F H : Int → Int} {Z : AR → Prop} (hI : Iv u e P2 Q2 c) (hJ : Iv ug eg P Q m) (hJ9 : Iv ug eg P Q m9) (hA : A = 13 ∨ A = 25) (ha1 : (-2147483648) ≤ a1 ∧ a1 ≤ 2147483647) (hq0 : (f0 = 0)) (hq1 : (g0 = (-1))) (hq2 : (z0 = 0)) (hq3 : (z1 = 0)) (hq4 : (z2 = 0)) (hq5 : (z3 = 5)) (hg_e1 : m 1 1 = e1) (hr_e1 : c 41 3 = e1) (hg_f0 : m 1 4 = f0) (hg_g0 : m 1 5 = g0) (hr_z0 : c 41 16 = z0) (hr_z1 : c 41 17 = z1) (hr_z2 : c 41 18 = z2) (hr_z3 : c 41 19 = z3) (hF : ∀ j : Int, m 2 j = F j) (hH : ∀ j : Int, c 43 j = H j) (hU : Ub F H) (hRt : Rt m c) (K : ∀ (c2 : ME), Iv u e P2 Q2 c2 → (∀ (a : Nat) (j : Int), ¬ ((a = 41 ∧ j = 4) ∨ (a = 41 ∧ j = 5) ∨ (a = 41 ∧ j = 6) ∨ (a = 41 ∧ j = 16) ∨ (a = 41 ∧ j = 17) ∨ (a = 41 ∧ j = 18) ∨ (a = 41 ∧ j = 19) ∨ a = 44 ∨ a = 45 ∨ a = 46) → c2 a j = c a j) → (Rt m9 c2) → ((m9 1 4 < 0) ∨ (m9 1 4 > 0) ∨ (m9 A 0 = c2 41 16 ∧ m9 A 1 = c2 41 17 ∧ m9 A 2 = c2 41 18 ∧ m9 A 3 = c2 41 19)) → Wp sc (d + 22) 169 136 [(0, .ref 41), (1, vi a1)] [] (Wd P2 Q2 P2 P2 c2) 0 0 Z) : ∀ n : Nat, (∀ (c2 m2 : ME) (v : Int) (a : Int) (jr : Int) (st : Int) (si : Int) (du : Int), Iv u e P2 Q2 c2 → (∀ (a : Nat) (j : Int), ¬ ((a = 41 ∧ j = 4) ∨ (a = 41 ∧ j = 5) ∨ (a = 41 ∧ j = 6) ∨ (a = 41 ∧ j = 16) ∨ (a = 41 ∧ j = 17) ∨ (a = 41 ∧ j = 18) ∨ (a = 41 ∧ j = 19) ∨ a = 44 ∨ a = 45 ∨ a = 46) → c2 a j = c a j) → Iv ug eg P Q m2 → (∀ (a : Nat) (j : Int), ¬ ((a = 1 ∧ j = 2) ∨ (a = 1 ∧ j = 4) ∨ (a = 1 ∧ j = 5) ∨ (a = A ∧ j = 0) ∨ (a = A ∧ j = 1) ∨ (a = A ∧ j = 2) ∨ (a = A ∧ j = 3) ∨ a = (A + 1) ∨ a = (A + 2) ∨ a = (A + 3) ∨ (a = A ∧ j = 4) ∨ (a = A ∧ j = 5) ∨ a = (A + 6) ∨ (a = (A + 7) ∧ j = 4)) → m2 a j = m a j) → 0 ≤ v ∧ v ≤ 60 → 0 ≤ a ∧ a ≤ 600 → 0 ≤ jr ∧ jr ≤ 6 → 0 ≤ st ∧ st ≤ 4 → 0 ≤ si ∧ si ≤ 4 → 0 ≤ du ∧ du ≤ 50 → m2 1 2 = a → c2 41 4 = a → m2 A 0 = jr → c2 41 16 = jr → m2 A 1 = st → c2 41 17 = st → m2 A 2 = si → c2 41 18 = si → m2 A 3 = du → c2 41 19 = du → m2 1 4 = 0 → c2 41 5 = (-1) → m2 1 5 = (-1) → Wp sc (dh + 30) 34 6 [(0, .ref A), (1, .ref 1), (2, vi v)] [] (Wd P Q P P m2) 0 0 (fun q => q = (.inl (none), Wd P Q P P m9, 0, 0)) → 61 - v < (n : Int) → Wp sc (d + 22) 169 44 [(0, .ref 41), (1, vi a1), (2, vi v)] [] (Wd P2 Q2 P2 P2 c2) 0 0 Z)
  | 0 => by intro c2 m2 v a jr st si du hI2 hFc hJ2 hFm hv ha hjr hst hsi hdu hg_a hr_a hg_jr hr_jr hg_st hr_st hg_si hr_si hg_du hr_du hc_0 hc_1 hc_2 hG2 hm9; exfalso; omega
  | n + 1 => by
    have hP := iv_P hJ
    have hQ := iv_Q hJ
    have ih := L_34_l (sc := sc) (d := d) (dh := dh) hI hJ hJ9 hA ha1 hq0 hq1 hq2 hq3 hq4 hq5 hg_e1 hr_e1 hg_f0 hg_g0 hr_z0 hr_z1 hr_z2 hr_z3 hF hH hU hRt K n
    intro c2 m2 v a jr st si du hI2 hFc hJ2 hFm hv ha hjr hst hsi hdu hg_a hr_a hg_jr hr_jr hg_st hr_st hg_si hr_si hg_du hr_du hc_0 hc_1 hc_2 hG2 hm9
    have h_1 := ir_1_1 hJ
    have h_2 := ir_41_3 hI
    have h_3 := ir_1_4 hJ
    have h_4 := ir_1_5 hJ
    have h_5 := ir_41_16 hI
    have h_6 := ir_41_17 hI
    have h_7 := ir_41_18 hI
    have h_8 := ir_41_19 hI
    have h_9 := ir_1_2 hJ2
    have h_10 := ir_41_4 hI2
    have h_11 := ir_p0_0 hJ2 hA
    have h_12 := ir_41_16 hI2
    have h_13 := ir_p0_1 hJ2 hA
    have h_14 := ir_41_17 hI2
    have h_15 := ir_p0_2 hJ2 hA
    have h_16 := ir_41_18 hI2
    have h_17 := ir_p0_3 hJ2 hA
    have h_18 := ir_41_19 hI2
    have h_19 := ir_1_4 hJ2
    have h_20 := ir_41_5 hI2
    have h_21 := ir_1_5 hJ2
    refine gh hG2 ?_
    refine q_iload_n rfl rfl ?_
    refine v_bip rfl (by decide) ?_
    refine v_ic_gt_f (t := 85) rfl (by decide) (by omega) ?_
    refine q_aload_n rfl rfl ?_
    refine v_cv rfl rfl rfl rfl (by decide) ⟨⟨rfl, rfl⟩, by decide, rfl⟩ (Nat.le_of_ble_eq_true rfl) (Nat.le_of_ble_eq_true rfl) ?_
    refine q_aload_n rfl rfl ?_
    refine v_cv rfl rfl rfl rfl (by decide) ⟨⟨rfl, rfl⟩, by decide, rfl⟩ (Nat.le_of_ble_eq_true rfl) (Nat.le_of_ble_eq_true rfl) ?_
    refine q_aload_n rfl rfl ?_
    refine v_gi (z := 4) (v := 0) rfl rfl rfl (by decide) rfl rfl (hc_0) ?_
    refine v_if_ne_f (t := 11) rfl (by decide) (by decide) ?_
    refine q_iconst rfl ?_
    refine q_goto (t := 12) rfl (by decide) ?_
    refine v_zret rfl rfl (by decide) ?_
    refine bk_inl ?_
    refine v_if_eq_f (t := 22) rfl (by decide) (by decide) ?_
    refine q_aload_n rfl rfl ?_
    have kn_22 : Hid (m2 1 1 = e1) := (hFm 1 1 (fun q => q.elim (fun h => absurd h.2 (ni rfl)) (fun q => q.elim (fun h => absurd h.2 (ni rfl)) (fun q => q.elim (fun h => absurd h.2 (ni rfl)) (fun q => q.elim (fun h => absurd h.1 (pn0 hA rfl)) (fun q => q.elim (fun h => absurd h.1 (pn0 hA rfl)) (fun q => q.elim (fun h => absurd h.1 (pn0 hA rfl)) (fun q => q.elim (fun h => absurd h.1 (pn0 hA rfl)) (fun q => q.elim (fun h => absurd h (pn hA rfl rfl)) (fun q => q.elim (fun h => absurd h (pn hA rfl rfl)) (fun q => q.elim (fun h => absurd h (pn hA rfl rfl)) (fun q => q.elim (fun h => absurd h.1 (pn0 hA rfl)) (fun q => q.elim (fun h => absurd h.1 (pn0 hA rfl)) (fun q => q.elim (fun h => absurd h (pn hA rfl rfl)) (fun h => absurd h.1 (pn hA rfl rfl)))))))))))))))).trans (hg_e1)
    have h_23 : -2147483648 ≤ (F a) ∧ (F a) ≤ 2147483647 := by rw [← hF a]; exact ir_2 hJ a
    have h_24 := nx_bd (b := F) (e := e1) (a := a)
    have h_25 : -2147483648 ≤ (F (nx F e1 a)) ∧ (F (nx F e1 a)) ≤ 2147483647 := by rw [← hF (nx F e1 a)]; exact ir_2 hJ (nx F e1 a)
    have h_26 := nx_n (b := F) (e := e1) (a := a)
    refine v_cv rfl rfl rfl rfl (by decide) ⟨⟨rfl, rfl⟩, by decide, rfl⟩ (Nat.le_of_ble_eq_true rfl) (Nat.le_of_ble_eq_true rfl) (f_3 (e1 := e1) (a9 := a) (B := F) (r8 := (nx F e1 a)) hJ2 ((hid kn_22)) ((hg_a)) (fun j => (hFm 2 j (fun q => q.elim (fun h => absurd h.1 (nn rfl)) (fun q => q.elim (fun h => absurd h.1 (nn rfl)) (fun q => q.elim (fun h => absurd h.1 (nn rfl)) (fun q => q.elim (fun h => absurd h.1 (pn0 hA rfl)) (fun q => q.elim (fun h => absurd h.1 (pn0 hA rfl)) (fun q => q.elim (fun h => absurd h.1 (pn0 hA rfl)) (fun q => q.elim (fun h => absurd h.1 (pn0 hA rfl)) (fun q => q.elim (fun h => absurd h (pn hA rfl rfl)) (fun q => q.elim (fun h => absurd h (pn hA rfl rfl)) (fun q => q.elim (fun h => absurd h (pn hA rfl rfl)) (fun q => q.elim (fun h => absurd h.1 (pn0 hA rfl)) (fun q => q.elim (fun h => absurd h.1 (pn0 hA rfl)) (fun q => q.elim (fun h => absurd h (pn hA rfl rfl)) (fun h => absurd h.1 (pn hA rfl rfl)))))))))))))))).trans (hF j)) rfl (fun c_27 hI_28 hF_29 hz_30 => ?_))
    refine bk_inl ?_
    refine q_aload_n rfl rfl ?_
    have kn_31 : Hid (c_27 1 1 = e1) := (hF_29 1 1 (fun h => absurd h.2 (ni rfl))).trans (hid kn_22)
    refine v_gi (z := 1) (v := e1) rfl rfl rfl (by decide) rfl rfl (hid kn_31) ?_
    by_cases h_32 : (nx F e1 a) ≥ e1
    · refine v_ic_ge_t (t := 22) rfl (by decide) (by omega) ?_
      refine q_iconst rfl ?_
      refine v_zret rfl rfl (by decide) ?_
      refine bk_inl ?_
      refine v_if_eq_t (t := 85) rfl (by decide) (by decide) ?_
      refine q_vret rfl rfl ?_
      intro hE_33
      have hW : Wd P Q P P c_27 = Wd P Q P P m9 := (Prod.mk.inj (Prod.mk.inj hE_33).2).1
      have kn_34 : Hid (c_27 1 4 = 0) := (hF_29 1 4 (fun h => absurd h.2 (ni rfl))).trans (hc_0)
      have h_35 := ir_1_4 hJ9
      have h_36 : m9 1 4 = 0 := wd_fv (z := 4) 4 rfl hW rfl rfl rfl rfl (by decide) (hid kn_34) ⟨by omega, by omega⟩ ⟨by omega, by omega⟩
      have h_37 := ir_1_2 hJ9
      have h_38 : m9 1 2 = (nx F e1 a) := wd_fv (z := 2) 2 rfl hW rfl rfl rfl rfl (by decide) (hz_30) ⟨by omega, by omega⟩ ⟨by omega, by omega⟩
      have kn_39 : Hid (c_27 1 5 = (-1)) := (hF_29 1 5 (fun h => absurd h.2 (ni rfl))).trans (hc_2)
      have h_40 := ir_1_5 hJ9
      have h_41 : m9 1 5 = (-1) := wd_fv (z := 5) 5 rfl hW rfl rfl rfl rfl (by decide) (hid kn_39) ⟨by omega, by omega⟩ ⟨by omega, by omega⟩
      have kn_42 : Hid (c_27 A 0 = jr) := (hF_29 A 0 (fun h => absurd h.1 (np0 hA rfl))).trans (hg_jr)
      have h_43 := ir_p0_0 hJ9 hA
      have h_44 : m9 A 0 = jr := wd_fv (z := 0) 0 rfl hW (ck_p0 hA) (ck_p0 hA) rfl rfl (by omega) (hid kn_42) ⟨by omega, by omega⟩ ⟨by omega, by omega⟩
      have kn_45 : Hid (c_27 A 1 = st) := (hF_29 A 1 (fun h => absurd h.1 (np0 hA rfl))).trans (hg_st)
      have h_46 := ir_p0_1 hJ9 hA
      have h_47 : m9 A 1 = st := wd_fv (z := 1) 1 rfl hW (ck_p0 hA) (ck_p0 hA) rfl rfl (by omega) (hid kn_45) ⟨by omega, by omega⟩ ⟨by omega, by omega⟩
      have kn_48 : Hid (c_27 A 2 = si) := (hF_29 A 2 (fun h => absurd h.1 (np0 hA rfl))).trans (hg_si)
      have h_49 := ir_p0_2 hJ9 hA
      have h_50 : m9 A 2 = si := wd_fv (z := 2) 2 rfl hW (ck_p0 hA) (ck_p0 hA) rfl rfl (by omega) (hid kn_48) ⟨by omega, by omega⟩ ⟨by omega, by omega⟩
      have kn_51 : Hid (c_27 A 3 = du) := (hF_29 A 3 (fun h => absurd h.1 (np0 hA rfl))).trans (hg_du)
      have h_52 := ir_p0_3 hJ9 hA
      have h_53 : m9 A 3 = du := wd_fv (z := 3) 3 rfl hW (ck_p0 hA) (ck_p0 hA) rfl rfl (by omega) (hid kn_51) ⟨by omega, by omega⟩ ⟨by omega, by omega⟩
      refine q_aload_n rfl rfl ?_
      refine v_cv rfl rfl rfl rfl (by decide) ⟨⟨rfl, rfl⟩, by decide, rfl⟩ (Nat.le_of_ble_eq_true rfl) (Nat.le_of_ble_eq_true rfl) ?_
      refine q_aload_n rfl rfl ?_
      refine v_gi (z := 5) (v := (-1)) rfl rfl rfl (by decide) rfl rfl (hc_1) ?_
      refine q_iconst rfl ?_
      refine v_ic_ne_f (t := 12) rfl (by decide) (by decide) ?_
      refine q_iconst rfl ?_
      refine q_goto (t := 13) rfl (by decide) ?_
      refine v_zret rfl rfl (by decide) ?_
      refine bk_inl ?_
      refine v_if_eq_f (t := 136) rfl (by decide) (by decide) ?_
      refine q_aload_n rfl rfl ?_
      refine v_cv rfl rfl rfl rfl (by decide) ⟨⟨rfl, rfl⟩, by decide, rfl⟩ (Nat.le_of_ble_eq_true rfl) (Nat.le_of_ble_eq_true rfl) ?_
      refine q_aload_n rfl rfl ?_
      have kn_54 : Hid (c2 41 3 = e1) := (hFc 41 3 (fun q => q.elim (fun h => absurd h.2 (ni rfl)) (fun q => q.elim (fun h => absurd h.2 (ni rfl)) (fun q => q.elim (fun h => absurd h.2 (ni rfl)) (fun q => q.elim (fun h => absurd h.2 (ni rfl)) (fun q => q.elim (fun h => absurd h.2 (ni rfl)) (fun q => q.elim (fun h => absurd h.2 (ni rfl)) (fun q => q.elim (fun h => absurd h.2 (ni rfl)) (fun q => q.elim (fun h => absurd h (nn rfl)) (fun q => q.elim (fun h => absurd h (nn rfl)) (fun h => absurd h (nn rfl)))))))))))).trans (hr_e1)
      have h_55 : -2147483648 ≤ (H (nx F e1 a)) ∧ (H (nx F e1 a)) ≤ 2147483647 := by rw [← hH (nx F e1 a)]; exact ir_43 hI (nx F e1 a)
      have h_56 : (nx F e1 a) < 600 → (H (nx F e1 a)) = (F (nx F e1 a)) % 256 ∧ -128 ≤ (F (nx F e1 a)) ∧ (F (nx F e1 a)) ≤ 127 := fun q => hU (nx F e1 a) (by omega) q
      have h_57 := hb_or (b := H) (e := e1) (r := (nx F e1 a))
      have h_58 := hb_bd (b := H) (e := e1) (r := (nx F e1 a)) (lo := -2147483648) (hi := 2147483647) ⟨by omega, by omega⟩ (by decide)
      refine v_cv rfl rfl rfl rfl (by decide) ⟨⟨rfl, rfl⟩, by decide, rfl⟩ (Nat.le_of_ble_eq_true rfl) (Nat.le_of_ble_eq_true rfl) (f_154 (e1 := e1) (a9 := a) (B := H) (r8 := (nx F e1 a)) (r := (hb H e1 (nx F e1 a))) hI2 ((hid kn_54)) ((hr_a)) (fun j => (hFc 43 j (fun q => q.elim (fun h => absurd h.1 (nn rfl)) (fun q => q.elim (fun h => absurd h.1 (nn rfl)) (fun q => q.elim (fun h => absurd h.1 (nn rfl)) (fun q => q.elim (fun h => absurd h.1 (nn rfl)) (fun q => q.elim (fun h => absurd h.1 (nn rfl)) (fun q => q.elim (fun h => absurd h.1 (nn rfl)) (fun q => q.elim (fun h => absurd h.1 (nn rfl)) (fun q => q.elim (fun h => absurd h (nn rfl)) (fun q => q.elim (fun h => absurd h (nn rfl)) (fun h => absurd h (nn rfl)))))))))))).trans (hH j)) ((nx_tr hU (by omega) (by omega)).trans (rfl)) rfl (fun c_59 hI_60 hF_61 h_62 => ?_))
      refine bk_inl ?_
      refine q_pop rfl rfl ?_
      refine q_aload_n rfl rfl ?_
      refine v_gi (z := 4) (v := (nx F e1 a)) rfl rfl rfl (by decide) rfl rfl (h_62) ?_
      refine q_aload_n rfl rfl ?_
      have kn_63 : Hid (c_59 41 3 = e1) := (hF_61 41 3 (fun h => absurd h.2 (ni rfl))).trans (hid kn_54)
      refine v_gi (z := 3) (v := e1) rfl rfl rfl (by decide) rfl rfl (hid kn_63) ?_
      refine v_ic_ge_t (t := 20) rfl (by decide) (by omega) ?_
      refine q_iconst rfl ?_
      refine v_zret rfl rfl (by decide) ?_
      refine bk_inl ?_
      refine v_if_eq_t (t := 136) rfl (by decide) (by decide) ?_
      refine Wp_ls [(0, .ref 41), (1, vi a1)] (lsub_cons rfl (lsub_cons rfl lsub_nil)) ?_
      have kn_64 : Hid (c_59 41 5 = (-1)) := (hF_61 41 5 (fun h => absurd h.2 (ni rfl))).trans (hc_1)
      have h_65 : c_59 41 5 = (-1) := (hid kn_64)
      have h_66 : c_59 41 4 = (nx F e1 a) := (h_62)
      have h_67 := ir_41_6 hI2
      have kn_68 : Hid (c_59 41 6 = c2 41 6) := hF_61 41 6 (fun h => absurd h.2 (ni rfl))
      have h_69 : c_59 41 6 = c2 41 6 := (hid kn_68)
      have kn_70 : Hid (c_59 41 16 = jr) := (hF_61 41 16 (fun h => absurd h.2 (ni rfl))).trans (hr_jr)
      have h_71 : c_59 41 16 = jr := (hid kn_70)
      have kn_72 : Hid (c_59 41 17 = st) := (hF_61 41 17 (fun h => absurd h.2 (ni rfl))).trans (hr_st)
      have h_73 : c_59 41 17 = st := (hid kn_72)
      have kn_74 : Hid (c_59 41 18 = si) := (hF_61 41 18 (fun h => absurd h.2 (ni rfl))).trans (hr_si)
      have h_75 : c_59 41 18 = si := (hid kn_74)
      have kn_76 : Hid (c_59 41 19 = du) := (hF_61 41 19 (fun h => absurd h.2 (ni rfl))).trans (hr_du)
      have h_77 : c_59 41 19 = du := (hid kn_76)
      exact K c_59  hI_60 (fun a j hm => (hF_61 a j (fun h => hm (Or.inl h))).trans (hFc a j (fun q => q.elim (fun h => hm (Or.inl h)) (fun q => q.elim (fun h => hm (Or.inr (Or.inl h))) (fun q => q.elim (fun h => hm (Or.inr (Or.inr (Or.inl h)))) (fun q => q.elim (fun h => hm (Or.inr (Or.inr (Or.inr (Or.inl h))))) (fun q => q.elim (fun h => hm (Or.inr (Or.inr (Or.inr (Or.inr (Or.inl h)))))) (fun q => q.elim (fun h => hm (Or.inr (Or.inr (Or.inr (Or.inr (Or.inr (Or.inl h))))))) (fun q => q.elim (fun h => hm (Or.inr (Or.inr (Or.inr (Or.inr (Or.inr (Or.inr (Or.inl h)))))))) (fun q => q.elim (fun h => hm (Or.inr (Or.inr (Or.inr (Or.inr (Or.inr (Or.inr (Or.inr (Or.inl h))))))))) (fun q => q.elim (fun h => hm (Or.inr (Or.inr (Or.inr (Or.inr (Or.inr (Or.inr (Or.inr (Or.inr (Or.inl h)))))))))) (fun h => hm (Or.inr (Or.inr (Or.inr (Or.inr (Or.inr (Or.inr (Or.inr (Or.inr (Or.inr h))))))))))))))))))))) (by unfold Rt; omega) (by omega)
    · refine v_ic_ge_f (t := 22) rfl (by decide) (by omega) ?_
      refine q_iconst rfl ?_
      refine q_goto (t := 23) rfl (by decide) ?_
      refine v_zret rfl rfl (by decide) ?_
      refine bk_inl ?_
      refine v_if_eq_f (t := 85) rfl (by decide) (by decide) ?_
      refine q_aload_n rfl rfl ?_
      refine v_cv rfl rfl rfl rfl (by decide) ⟨⟨rfl, rfl⟩, by decide, rfl⟩ (Nat.le_of_ble_eq_true rfl) (Nat.le_of_ble_eq_true rfl) (f_3 (e1 := e1) (a9 := (nx F e1 a)) (B := F) (r8 := (nx F e1 a)) hI_28 ((hid kn_31)) ((hz_30)) (fun j => ((hF_29 2 j (fun h => absurd h.1 (nn rfl))).trans (hFm 2 j (fun q => q.elim (fun h => absurd h.1 (nn rfl)) (fun q => q.elim (fun h => absurd h.1 (nn rfl)) (fun q => q.elim (fun h => absurd h.1 (nn rfl)) (fun q => q.elim (fun h => absurd h.1 (pn0 hA rfl)) (fun q => q.elim (fun h => absurd h.1 (pn0 hA rfl)) (fun q => q.elim (fun h => absurd h.1 (pn0 hA rfl)) (fun q => q.elim (fun h => absurd h.1 (pn0 hA rfl)) (fun q => q.elim (fun h => absurd h (pn hA rfl rfl)) (fun q => q.elim (fun h => absurd h (pn hA rfl rfl)) (fun q => q.elim (fun h => absurd h (pn hA rfl rfl)) (fun q => q.elim (fun h => absurd h.1 (pn0 hA rfl)) (fun q => q.elim (fun h => absurd h.1 (pn0 hA rfl)) (fun q => q.elim (fun h => absurd h (pn hA rfl rfl)) (fun h => absurd h.1 (pn hA rfl rfl))))))))))))))))).trans (hF j)) (nx_z (by omega)) (fun c_78 hI_79 hF_80 hz_81 => ?_))
      refine bk_inl ?_
      refine q_istore_n rfl (by decide) ?_
      refine q_aload_n rfl rfl ?_
      refine q_ldc_s rfl rfl rfl (by decide) ?_
      have kn_82 : Hid (c_78 1 1 = e1) := (hF_80 1 1 (fun h => absurd h.2 (ni rfl))).trans (hid kn_31)
      have kn_83 : Hid (c_27 1 4 = 0) := (hF_29 1 4 (fun h => absurd h.2 (ni rfl))).trans (hc_0)
      have kn_84 : Hid (c_78 1 4 = 0) := (hF_80 1 4 (fun h => absurd h.2 (ni rfl))).trans (hid kn_83)
      have kn_85 : Hid (c_27 1 5 = (-1)) := (hF_29 1 5 (fun h => absurd h.2 (ni rfl))).trans (hc_2)
      have kn_86 : Hid (c_78 1 5 = (-1)) := (hF_80 1 5 (fun h => absurd h.2 (ni rfl))).trans (hid kn_85)
      have h_87 := ln_bd (b := F) (e := e1) (a := (nx F e1 a))
      refine v_cv rfl rfl rfl rfl (by decide) ⟨⟨rfl, rfl⟩, by decide, rfl⟩ (Nat.le_of_ble_eq_true rfl) (Nat.le_of_ble_eq_true rfl) (f_10_8 (e1 := e1) (a9 := (nx F e1 a)) (f9 := 0) (p9 := (-1)) (B := F) (r8 := (nx F e1 a)) (L8 := (ln F e1 (nx F e1 a))) (W8 := (wd8_0 F (nx F e1 a) (ln F e1 (nx F e1 a)))) hI_79 ((hid kn_82)) ((hz_81)) ((hid kn_84)) ((hid kn_86)) (fun j => ((hF_80 2 j (fun h => absurd h.1 (nn rfl))).trans ((hF_29 2 j (fun h => absurd h.1 (nn rfl))).trans (hFm 2 j (fun q => q.elim (fun h => absurd h.1 (nn rfl)) (fun q => q.elim (fun h => absurd h.1 (nn rfl)) (fun q => q.elim (fun h => absurd h.1 (nn rfl)) (fun q => q.elim (fun h => absurd h.1 (pn0 hA rfl)) (fun q => q.elim (fun h => absurd h.1 (pn0 hA rfl)) (fun q => q.elim (fun h => absurd h.1 (pn0 hA rfl)) (fun q => q.elim (fun h => absurd h.1 (pn0 hA rfl)) (fun q => q.elim (fun h => absurd h (pn hA rfl rfl)) (fun q => q.elim (fun h => absurd h (pn hA rfl rfl)) (fun q => q.elim (fun h => absurd h (pn hA rfl rfl)) (fun q => q.elim (fun h => absurd h.1 (pn0 hA rfl)) (fun q => q.elim (fun h => absurd h.1 (pn0 hA rfl)) (fun q => q.elim (fun h => absurd h (pn hA rfl rfl)) (fun h => absurd h.1 (pn hA rfl rfl)))))))))))))))))).trans (hF j)) (nx_z (by omega)) rfl rfl (fun c_88 hI_89 hF_90 h_91 hz_92 hz_93 hz_94 => by exfalso; omega) (fun c_95 hI_96 hF_97 h_98 h_99 hz_100 hz_101 hz_102 => ?_) (fun c_103 hI_104 hF_105 h_106 h_107 hz_108 hz_109 hz_110 => ?_))
      · skip
        refine bk_inl ?_
        refine q_istore rfl (by decide) ?_
        refine q_iload rfl rfl ?_
        refine q_iconst rfl ?_
        refine v_ic_eq_t (t := 59) rfl (by decide) (by decide) ?_
        refine q_aload_n rfl rfl ?_
        refine v_cv rfl rfl rfl rfl (by decide) ⟨⟨rfl, rfl⟩, by decide, rfl⟩ (Nat.le_of_ble_eq_true rfl) (Nat.le_of_ble_eq_true rfl) ?_
        refine q_aload_n rfl rfl ?_
        refine v_gi (z := 4) (v := 1) rfl rfl rfl (by decide) rfl rfl (hz_101) ?_
        refine v_if_ne_t (t := 11) rfl (by decide) (by decide) ?_
        refine q_iconst rfl ?_
        refine v_zret rfl rfl (by decide) ?_
        refine bk_inl ?_
        refine v_if_eq_t (t := 73) rfl (by decide) (by decide) ?_
        refine q_aload_n rfl rfl ?_
        refine q_ldc_s rfl rfl rfl (by decide) ?_
        refine v_cv rfl rfl rfl rfl (by decide) ⟨⟨rfl, rfl⟩, by decide, rfl⟩ (Nat.le_of_ble_eq_true rfl) (Nat.le_of_ble_eq_true rfl) ?_
        refine q_aload_n rfl rfl ?_
        refine v_cv rfl rfl rfl rfl (by decide) ⟨⟨rfl, rfl⟩, by decide, rfl⟩ (Nat.le_of_ble_eq_true rfl) (Nat.le_of_ble_eq_true rfl) ?_
        refine q_aload_n rfl rfl ?_
        refine v_gi (z := 4) (v := 1) rfl rfl rfl (by decide) rfl rfl (hz_101) ?_
        refine v_if_ne_t (t := 11) rfl (by decide) (by decide) ?_
        refine q_iconst rfl ?_
        refine v_zret rfl rfl (by decide) ?_
        refine bk_inl ?_
        refine v_if_eq_t (t := 25) rfl (by decide) (by decide) ?_
        refine q_vret rfl rfl ?_
        refine bk_inl ?_
        refine v_iinc (v := v + 1) rfl rfl (by decide) (by omega) ?_
        refine q_goto (t := 6) rfl (by decide) ?_
        refine q_iload_n rfl rfl ?_
        refine v_bip rfl (by decide) ?_
        by_cases h_111 : v + 1 > 60
        · refine v_ic_gt_t (t := 85) rfl (by decide) (by omega) ?_
          refine q_vret rfl rfl ?_
          intro hE_112
          have hW : Wd P Q P P c_95 = Wd P Q P P m9 := (Prod.mk.inj (Prod.mk.inj hE_112).2).1
          have h_113 := ir_1_4 hJ9
          have h_114 : m9 1 4 = 1 := wd_fv (z := 4) 4 rfl hW rfl rfl rfl rfl (by decide) (hz_101) ⟨by omega, by omega⟩ ⟨by omega, by omega⟩
          have h_115 := ir_1_2 hJ9
          have h_116 : m9 1 2 = (nx F e1 a) := wd_fv (z := 2) 2 rfl hW rfl rfl rfl rfl (by decide) (hz_100) ⟨by omega, by omega⟩ ⟨by omega, by omega⟩
          have h_117 := ir_1_5 hJ9
          have h_118 : m9 1 5 = (nx F e1 a) := wd_fv (z := 5) 5 rfl hW rfl rfl rfl rfl (by decide) (hz_102) ⟨by omega, by omega⟩ ⟨by omega, by omega⟩
          have kn_119 : Hid (c_27 A 0 = jr) := (hF_29 A 0 (fun h => absurd h.1 (np0 hA rfl))).trans (hg_jr)
          have kn_120 : Hid (c_78 A 0 = jr) := (hF_80 A 0 (fun h => absurd h.1 (np0 hA rfl))).trans (hid kn_119)
          have kn_121 : Hid (c_95 A 0 = jr) := (hF_97 A 0 (fun q => q.elim (fun h => absurd h.1 (np0 hA rfl)) (fun q => q.elim (fun h => absurd h.1 (np0 hA rfl)) (fun h => absurd h.1 (np0 hA rfl))))).trans (hid kn_120)
          have h_122 := ir_p0_0 hJ9 hA
          have h_123 : m9 A 0 = jr := wd_fv (z := 0) 0 rfl hW (ck_p0 hA) (ck_p0 hA) rfl rfl (by omega) (hid kn_121) ⟨by omega, by omega⟩ ⟨by omega, by omega⟩
          have kn_124 : Hid (c_27 A 1 = st) := (hF_29 A 1 (fun h => absurd h.1 (np0 hA rfl))).trans (hg_st)
          have kn_125 : Hid (c_78 A 1 = st) := (hF_80 A 1 (fun h => absurd h.1 (np0 hA rfl))).trans (hid kn_124)
          have kn_126 : Hid (c_95 A 1 = st) := (hF_97 A 1 (fun q => q.elim (fun h => absurd h.1 (np0 hA rfl)) (fun q => q.elim (fun h => absurd h.1 (np0 hA rfl)) (fun h => absurd h.1 (np0 hA rfl))))).trans (hid kn_125)
          have h_127 := ir_p0_1 hJ9 hA
          have h_128 : m9 A 1 = st := wd_fv (z := 1) 1 rfl hW (ck_p0 hA) (ck_p0 hA) rfl rfl (by omega) (hid kn_126) ⟨by omega, by omega⟩ ⟨by omega, by omega⟩
          have kn_129 : Hid (c_27 A 2 = si) := (hF_29 A 2 (fun h => absurd h.1 (np0 hA rfl))).trans (hg_si)
          have kn_130 : Hid (c_78 A 2 = si) := (hF_80 A 2 (fun h => absurd h.1 (np0 hA rfl))).trans (hid kn_129)
          have kn_131 : Hid (c_95 A 2 = si) := (hF_97 A 2 (fun q => q.elim (fun h => absurd h.1 (np0 hA rfl)) (fun q => q.elim (fun h => absurd h.1 (np0 hA rfl)) (fun h => absurd h.1 (np0 hA rfl))))).trans (hid kn_130)
          have h_132 := ir_p0_2 hJ9 hA
          have h_133 : m9 A 2 = si := wd_fv (z := 2) 2 rfl hW (ck_p0 hA) (ck_p0 hA) rfl rfl (by omega) (hid kn_131) ⟨by omega, by omega⟩ ⟨by omega, by omega⟩
          have kn_134 : Hid (c_27 A 3 = du) := (hF_29 A 3 (fun h => absurd h.1 (np0 hA rfl))).trans (hg_du)
          have kn_135 : Hid (c_78 A 3 = du) := (hF_80 A 3 (fun h => absurd h.1 (np0 hA rfl))).trans (hid kn_134)
          have kn_136 : Hid (c_95 A 3 = du) := (hF_97 A 3 (fun q => q.elim (fun h => absurd h.1 (np0 hA rfl)) (fun q => q.elim (fun h => absurd h.1 (np0 hA rfl)) (fun h => absurd h.1 (np0 hA rfl))))).trans (hid kn_135)
          have h_137 := ir_p0_3 hJ9 hA
          have h_138 : m9 A 3 = du := wd_fv (z := 3) 3 rfl hW (ck_p0 hA) (ck_p0 hA) rfl rfl (by omega) (hid kn_136) ⟨by omega, by omega⟩ ⟨by omega, by omega⟩
          refine q_aload_n rfl rfl ?_
          refine v_cv rfl rfl rfl rfl (by decide) ⟨⟨rfl, rfl⟩, by decide, rfl⟩ (Nat.le_of_ble_eq_true rfl) (Nat.le_of_ble_eq_true rfl) ?_
          refine q_aload_n rfl rfl ?_
          refine v_gi (z := 5) (v := (-1)) rfl rfl rfl (by decide) rfl rfl (hc_1) ?_
          refine q_iconst rfl ?_
          refine v_ic_ne_f (t := 12) rfl (by decide) (by decide) ?_
          refine q_iconst rfl ?_
          refine q_goto (t := 13) rfl (by decide) ?_
          refine v_zret rfl rfl (by decide) ?_
          refine bk_inl ?_
          refine v_if_eq_f (t := 136) rfl (by decide) (by decide) ?_
          refine q_aload_n rfl rfl ?_
          refine v_cv rfl rfl rfl rfl (by decide) ⟨⟨rfl, rfl⟩, by decide, rfl⟩ (Nat.le_of_ble_eq_true rfl) (Nat.le_of_ble_eq_true rfl) ?_
          refine q_aload_n rfl rfl ?_
          have kn_139 : Hid (c2 41 3 = e1) := (hFc 41 3 (fun q => q.elim (fun h => absurd h.2 (ni rfl)) (fun q => q.elim (fun h => absurd h.2 (ni rfl)) (fun q => q.elim (fun h => absurd h.2 (ni rfl)) (fun q => q.elim (fun h => absurd h.2 (ni rfl)) (fun q => q.elim (fun h => absurd h.2 (ni rfl)) (fun q => q.elim (fun h => absurd h.2 (ni rfl)) (fun q => q.elim (fun h => absurd h.2 (ni rfl)) (fun q => q.elim (fun h => absurd h (nn rfl)) (fun q => q.elim (fun h => absurd h (nn rfl)) (fun h => absurd h (nn rfl)))))))))))).trans (hr_e1)
          have h_140 : -2147483648 ≤ (H (nx F e1 a)) ∧ (H (nx F e1 a)) ≤ 2147483647 := by rw [← hH (nx F e1 a)]; exact ir_43 hI (nx F e1 a)
          have h_141 := hU (nx F e1 a) (by omega) (by omega)
          have h_142 := hb_or (b := H) (e := e1) (r := (nx F e1 a))
          have h_143 := hb_bd (b := H) (e := e1) (r := (nx F e1 a)) (lo := -2147483648) (hi := 2147483647) ⟨by omega, by omega⟩ (by decide)
          refine v_cv rfl rfl rfl rfl (by decide) ⟨⟨rfl, rfl⟩, by decide, rfl⟩ (Nat.le_of_ble_eq_true rfl) (Nat.le_of_ble_eq_true rfl) (f_154 (e1 := e1) (a9 := a) (B := H) (r8 := (nx F e1 a)) (r := (hb H e1 (nx F e1 a))) hI2 ((hid kn_139)) ((hr_a)) (fun j => (hFc 43 j (fun q => q.elim (fun h => absurd h.1 (nn rfl)) (fun q => q.elim (fun h => absurd h.1 (nn rfl)) (fun q => q.elim (fun h => absurd h.1 (nn rfl)) (fun q => q.elim (fun h => absurd h.1 (nn rfl)) (fun q => q.elim (fun h => absurd h.1 (nn rfl)) (fun q => q.elim (fun h => absurd h.1 (nn rfl)) (fun q => q.elim (fun h => absurd h.1 (nn rfl)) (fun q => q.elim (fun h => absurd h (nn rfl)) (fun q => q.elim (fun h => absurd h (nn rfl)) (fun h => absurd h (nn rfl)))))))))))).trans (hH j)) ((nx_tr hU (by omega) (by omega)).trans (rfl)) rfl (fun c_144 hI_145 hF_146 h_147 => ?_))
          refine bk_inl ?_
          refine q_pop rfl rfl ?_
          refine q_aload_n rfl rfl ?_
          refine v_gi (z := 4) (v := (nx F e1 a)) rfl rfl rfl (by decide) rfl rfl (h_147) ?_
          refine q_aload_n rfl rfl ?_
          have kn_148 : Hid (c_144 41 3 = e1) := (hF_146 41 3 (fun h => absurd h.2 (ni rfl))).trans (hid kn_139)
          refine v_gi (z := 3) (v := e1) rfl rfl rfl (by decide) rfl rfl (hid kn_148) ?_
          refine v_ic_ge_f (t := 20) rfl (by decide) (by omega) ?_
          refine q_iconst rfl ?_
          refine q_goto (t := 21) rfl (by decide) ?_
          refine v_zret rfl rfl (by decide) ?_
          refine bk_inl ?_
          refine v_if_eq_f (t := 136) rfl (by decide) (by decide) ?_
          refine q_aload_n rfl rfl ?_
          have h_149 := wv_bd (b := F) (r := (nx F e1 a)) (l := (ln F e1 (nx F e1 a))) (fun j h1 h2 => ⟨(ln_in (e := e1) (a := (nx F e1 a)) h1 (by omega)).1, (ln_in (e := e1) (a := (nx F e1 a)) h1 (by omega)).2.1⟩)
          have hw_150 : Hid (¬ wv F (nx F e1 a) (ln F e1 (nx F e1 a)) = 10290 ∧ ¬ wv F (nx F e1 a) (ln F e1 (nx F e1 a)) = 20594117 ∧ ¬ wv F (nx F e1 a) (ln F e1 (nx F e1 a)) = 20223685 ∧ ¬ wv F (nx F e1 a) (ln F e1 (nx F e1 a)) = 153204) := wr8_4 (b := F) (r := (nx F e1 a)) (l := (ln F e1 (nx F e1 a))) (by omega) (fun j h1 h2 => ⟨(ln_in (e := e1) (a := (nx F e1 a)) h1 (by omega)).1, (ln_in (e := e1) (a := (nx F e1 a)) h1 (by omega)).2.1⟩) (by omega)
          refine v_cv rfl rfl rfl rfl (by decide) ⟨⟨rfl, rfl⟩, by decide, rfl⟩ (Nat.le_of_ble_eq_true rfl) (Nat.le_of_ble_eq_true rfl) (f_157 (e1 := e1) (a9 := (nx F e1 a)) (B := H) (r8 := (nx F e1 a)) (L8 := (ln F e1 (nx F e1 a))) (W8 := (wv F (nx F e1 a) (ln F e1 (nx F e1 a)))) hI_145 ((hid kn_148)) ((h_147)) (fun j => ((hF_146 43 j (fun h => absurd h.1 (nn rfl))).trans (hFc 43 j (fun q => q.elim (fun h => absurd h.1 (nn rfl)) (fun q => q.elim (fun h => absurd h.1 (nn rfl)) (fun q => q.elim (fun h => absurd h.1 (nn rfl)) (fun q => q.elim (fun h => absurd h.1 (nn rfl)) (fun q => q.elim (fun h => absurd h.1 (nn rfl)) (fun q => q.elim (fun h => absurd h.1 (nn rfl)) (fun q => q.elim (fun h => absurd h.1 (nn rfl)) (fun q => q.elim (fun h => absurd h (nn rfl)) (fun q => q.elim (fun h => absurd h (nn rfl)) (fun h => absurd h (nn rfl))))))))))))).trans (hH j)) ((nx_tr hU (by omega) (by omega)).trans ((nx_z (by omega)))) ((ln_tr hU (by omega) (by omega)).trans (rfl)) ((wv_tr hU (by omega) (by omega) (fun j h1 h2 => ⟨(ln_in (e := e1) (a := (nx F e1 a)) h1 (by omega)).1, (ln_in (e := e1) (a := (nx F e1 a)) h1 (by omega)).2.1⟩)).trans (rfl)) (fun c_151 hI_152 hF_153 hz_154 => ?_))
          refine bk_inl ?_
          refine q_istore_n rfl (by decide) ?_
          refine q_iload_n rfl rfl ?_
          refine q_call rfl rfl rfl rfl ?_
          refine q_iload_n rfl rfl ?_
          refine q_ldc_s rfl rfl rfl (by decide) ?_
          refine q_call rfl rfl rfl rfl (s_158_16 ?_)
          refine bk_inl ?_
          refine v_ic_eq_f (t := 36) rfl (by decide) ⟨(hid hw_150).1, ⟨by omega, by omega⟩, by decide, by decide⟩ ?_
          refine q_iload_n rfl rfl ?_
          refine q_ldc_s rfl rfl rfl (by decide) ?_
          refine q_call rfl rfl rfl rfl (s_158_17 ?_)
          refine bk_inl ?_
          refine v_ic_eq_f (t := 36) rfl (by decide) ⟨(hid hw_150).2.1, ⟨by omega, by omega⟩, by decide, by decide⟩ ?_
          refine q_iload_n rfl rfl ?_
          refine q_ldc_s rfl rfl rfl (by decide) ?_
          refine q_call rfl rfl rfl rfl (s_158_18 ?_)
          refine bk_inl ?_
          refine v_ic_eq_f (t := 36) rfl (by decide) ⟨(hid hw_150).2.2.1, ⟨by omega, by omega⟩, by decide, by decide⟩ ?_
          refine q_iload_n rfl rfl ?_
          refine q_ldc_s rfl rfl rfl (by decide) ?_
          refine q_call rfl rfl rfl rfl (s_158_19 ?_)
          refine bk_inl ?_
          refine v_ic_ne_t (t := 40) rfl (by decide) ⟨(hid hw_150).2.2.2, ⟨by omega, by omega⟩, by decide, by decide⟩ ?_
          refine q_iconst rfl ?_
          refine v_zret rfl rfl (by decide) ?_
          refine bk_inl ?_
          refine v_if_ne_f (t := 82) rfl (by decide) (by decide) ?_
          refine q_aload_n rfl rfl ?_
          refine q_iconst rfl ?_
          refine q_aload_n rfl rfl ?_
          refine v_gi (z := 4) (v := (nx F e1 a)) rfl rfl rfl (by decide) rfl rfl (hz_154) ?_
          refine v_cv rfl rfl rfl rfl (by decide) ⟨⟨rfl, rfl⟩, by decide, rfl⟩ (Nat.le_of_ble_eq_true rfl) (Nat.le_of_ble_eq_true rfl) ?_
          refine q_aload_n rfl rfl ?_
          have kn_155 : Hid (c_144 41 5 = (-1)) := (hF_146 41 5 (fun h => absurd h.2 (ni rfl))).trans (hc_1)
          have kn_156 : Hid (c_151 41 5 = (-1)) := (hF_153 41 5 (fun h => absurd h.2 (ni rfl))).trans (hid kn_155)
          refine v_gi (z := 5) (v := (-1)) rfl rfl rfl (by decide) rfl rfl (hid kn_156) ?_
          refine q_iconst rfl ?_
          refine v_ic_eq_t (t := 9) rfl (by decide) (by decide) ?_
          refine q_aload_n rfl rfl ?_
          refine q_iload_n rfl rfl ?_
          refine v_pi (z := 5) rfl rfl rfl (by decide) rfl rfl rfl (by decide) ?_
          refine q_aload_n rfl rfl ?_
          refine q_iload_n rfl rfl ?_
          refine v_pi (z := 6) rfl rfl rfl (by decide) rfl rfl rfl (by decide) ?_
          refine q_vret rfl rfl ?_
          refine bk_inl ?_
          refine q_goto (t := 105) rfl (by decide) ?_
          refine q_aload_n rfl rfl ?_
          refine v_cv rfl rfl rfl rfl (by decide) ⟨⟨rfl, rfl⟩, by decide, rfl⟩ (Nat.le_of_ble_eq_true rfl) (Nat.le_of_ble_eq_true rfl) ?_
          refine q_aload_n rfl rfl ?_
          refine v_gi (z := 5) (v := (nx F e1 a)) rfl rfl rfl (by decide) rfl rfl ((up_n (by decide)).trans (up_e rfl)) ?_
          refine q_iconst rfl ?_
          refine v_ic_ne_t (t := 12) rfl (by decide) (by omega) ?_
          refine q_iconst rfl ?_
          refine v_zret rfl rfl (by decide) ?_
          refine bk_inl ?_
          refine v_if_ne_f (t := 115) rfl (by decide) (by decide) ?_
          refine q_goto (t := 136) rfl (by decide) ?_
          refine Wp_ls [(0, .ref 41), (1, vi a1)] (lsub_cons rfl (lsub_cons rfl lsub_nil)) ?_
          have hI_157 := iw_41_5 (v := (nx F e1 a)) hI_152 ⟨by omega, by omega⟩
          have hI_158 := iw_41_6 (v := 1) hI_157 ⟨by decide, by decide⟩
          have h_159 : (up (up c_151 41 5 (nx F e1 a)) 41 6 1) 41 5 = (nx F e1 a) := ((up_n (by decide)).trans (up_e rfl))
          have h_160 : (up (up c_151 41 5 (nx F e1 a)) 41 6 1) 41 4 = (nx F e1 a) := ((up_n (by decide)).trans ((up_n (by decide)).trans (hz_154)))
          have h_161 : (up (up c_151 41 5 (nx F e1 a)) 41 6 1) 41 6 = 1 := (up_e rfl)
          have kn_162 : Hid (c_144 41 16 = jr) := (hF_146 41 16 (fun h => absurd h.2 (ni rfl))).trans (hr_jr)
          have kn_163 : Hid (c_151 41 16 = jr) := (hF_153 41 16 (fun h => absurd h.2 (ni rfl))).trans (hid kn_162)
          have h_164 : (up (up c_151 41 5 (nx F e1 a)) 41 6 1) 41 16 = jr := ((up_n (by decide)).trans ((up_n (by decide)).trans (hid kn_163)))
          have kn_165 : Hid (c_144 41 17 = st) := (hF_146 41 17 (fun h => absurd h.2 (ni rfl))).trans (hr_st)
          have kn_166 : Hid (c_151 41 17 = st) := (hF_153 41 17 (fun h => absurd h.2 (ni rfl))).trans (hid kn_165)
          have h_167 : (up (up c_151 41 5 (nx F e1 a)) 41 6 1) 41 17 = st := ((up_n (by decide)).trans ((up_n (by decide)).trans (hid kn_166)))
          have kn_168 : Hid (c_144 41 18 = si) := (hF_146 41 18 (fun h => absurd h.2 (ni rfl))).trans (hr_si)
          have kn_169 : Hid (c_151 41 18 = si) := (hF_153 41 18 (fun h => absurd h.2 (ni rfl))).trans (hid kn_168)
          have h_170 : (up (up c_151 41 5 (nx F e1 a)) 41 6 1) 41 18 = si := ((up_n (by decide)).trans ((up_n (by decide)).trans (hid kn_169)))
          have kn_171 : Hid (c_144 41 19 = du) := (hF_146 41 19 (fun h => absurd h.2 (ni rfl))).trans (hr_du)
          have kn_172 : Hid (c_151 41 19 = du) := (hF_153 41 19 (fun h => absurd h.2 (ni rfl))).trans (hid kn_171)
          have h_173 : (up (up c_151 41 5 (nx F e1 a)) 41 6 1) 41 19 = du := ((up_n (by decide)).trans ((up_n (by decide)).trans (hid kn_172)))
          exact K (up (up c_151 41 5 (nx F e1 a)) 41 6 1)  hI_158 (fun a j hm => (up_b (Decidable.or_iff_not_imp_left.mpr (fun h1 h2 => hm (Or.inr (Or.inr (Or.inl ⟨Decidable.not_not.mp h1, h2⟩)))))).trans ((up_b (Decidable.or_iff_not_imp_left.mpr (fun h1 h2 => hm (Or.inr (Or.inl ⟨Decidable.not_not.mp h1, h2⟩))))).trans ((hF_153 a j (fun h => hm (Or.inl h))).trans ((hF_146 a j (fun h => hm (Or.inl h))).trans (hFc a j (fun q => q.elim (fun h => hm (Or.inl h)) (fun q => q.elim (fun h => hm (Or.inr (Or.inl h))) (fun q => q.elim (fun h => hm (Or.inr (Or.inr (Or.inl h)))) (fun q => q.elim (fun h => hm (Or.inr (Or.inr (Or.inr (Or.inl h))))) (fun q => q.elim (fun h => hm (Or.inr (Or.inr (Or.inr (Or.inr (Or.inl h)))))) (fun q => q.elim (fun h => hm (Or.inr (Or.inr (Or.inr (Or.inr (Or.inr (Or.inl h))))))) (fun q => q.elim (fun h => hm (Or.inr (Or.inr (Or.inr (Or.inr (Or.inr (Or.inr (Or.inl h)))))))) (fun q => q.elim (fun h => hm (Or.inr (Or.inr (Or.inr (Or.inr (Or.inr (Or.inr (Or.inr (Or.inl h))))))))) (fun q => q.elim (fun h => hm (Or.inr (Or.inr (Or.inr (Or.inr (Or.inr (Or.inr (Or.inr (Or.inr (Or.inl h)))))))))) (fun h => hm (Or.inr (Or.inr (Or.inr (Or.inr (Or.inr (Or.inr (Or.inr (Or.inr (Or.inr h)))))))))))))))))))))))) (by unfold Rt; omega) (by omega)
        · refine v_ic_gt_f (t := 85) rfl (by decide) (by omega) ?_
          refine q_aload_n rfl rfl ?_
          refine v_cv rfl rfl rfl rfl (by decide) ⟨⟨rfl, rfl⟩, by decide, rfl⟩ (Nat.le_of_ble_eq_true rfl) (Nat.le_of_ble_eq_true rfl) ?_
          refine q_aload_n rfl rfl ?_
          refine v_cv rfl rfl rfl rfl (by decide) ⟨⟨rfl, rfl⟩, by decide, rfl⟩ (Nat.le_of_ble_eq_true rfl) (Nat.le_of_ble_eq_true rfl) ?_
          refine q_aload_n rfl rfl ?_
          refine v_gi (z := 4) (v := 1) rfl rfl rfl (by decide) rfl rfl (hz_101) ?_
          refine v_if_ne_t (t := 11) rfl (by decide) (by decide) ?_
          refine q_iconst rfl ?_
          refine v_zret rfl rfl (by decide) ?_
          refine bk_inl ?_
          refine v_if_eq_t (t := 22) rfl (by decide) (by decide) ?_
          refine q_iconst rfl ?_
          refine v_zret rfl rfl (by decide) ?_
          refine bk_inl ?_
          refine v_if_eq_t (t := 85) rfl (by decide) (by decide) ?_
          refine q_vret rfl rfl ?_
          intro hE_174
          have hW : Wd P Q P P c_95 = Wd P Q P P m9 := (Prod.mk.inj (Prod.mk.inj hE_174).2).1
          have h_175 := ir_1_4 hJ9
          have h_176 : m9 1 4 = 1 := wd_fv (z := 4) 4 rfl hW rfl rfl rfl rfl (by decide) (hz_101) ⟨by omega, by omega⟩ ⟨by omega, by omega⟩
          have h_177 := ir_1_2 hJ9
          have h_178 : m9 1 2 = (nx F e1 a) := wd_fv (z := 2) 2 rfl hW rfl rfl rfl rfl (by decide) (hz_100) ⟨by omega, by omega⟩ ⟨by omega, by omega⟩
          have h_179 := ir_1_5 hJ9
          have h_180 : m9 1 5 = (nx F e1 a) := wd_fv (z := 5) 5 rfl hW rfl rfl rfl rfl (by decide) (hz_102) ⟨by omega, by omega⟩ ⟨by omega, by omega⟩
          have kn_181 : Hid (c_27 A 0 = jr) := (hF_29 A 0 (fun h => absurd h.1 (np0 hA rfl))).trans (hg_jr)
          have kn_182 : Hid (c_78 A 0 = jr) := (hF_80 A 0 (fun h => absurd h.1 (np0 hA rfl))).trans (hid kn_181)
          have kn_183 : Hid (c_95 A 0 = jr) := (hF_97 A 0 (fun q => q.elim (fun h => absurd h.1 (np0 hA rfl)) (fun q => q.elim (fun h => absurd h.1 (np0 hA rfl)) (fun h => absurd h.1 (np0 hA rfl))))).trans (hid kn_182)
          have h_184 := ir_p0_0 hJ9 hA
          have h_185 : m9 A 0 = jr := wd_fv (z := 0) 0 rfl hW (ck_p0 hA) (ck_p0 hA) rfl rfl (by omega) (hid kn_183) ⟨by omega, by omega⟩ ⟨by omega, by omega⟩
          have kn_186 : Hid (c_27 A 1 = st) := (hF_29 A 1 (fun h => absurd h.1 (np0 hA rfl))).trans (hg_st)
          have kn_187 : Hid (c_78 A 1 = st) := (hF_80 A 1 (fun h => absurd h.1 (np0 hA rfl))).trans (hid kn_186)
          have kn_188 : Hid (c_95 A 1 = st) := (hF_97 A 1 (fun q => q.elim (fun h => absurd h.1 (np0 hA rfl)) (fun q => q.elim (fun h => absurd h.1 (np0 hA rfl)) (fun h => absurd h.1 (np0 hA rfl))))).trans (hid kn_187)
          have h_189 := ir_p0_1 hJ9 hA
          have h_190 : m9 A 1 = st := wd_fv (z := 1) 1 rfl hW (ck_p0 hA) (ck_p0 hA) rfl rfl (by omega) (hid kn_188) ⟨by omega, by omega⟩ ⟨by omega, by omega⟩
          have kn_191 : Hid (c_27 A 2 = si) := (hF_29 A 2 (fun h => absurd h.1 (np0 hA rfl))).trans (hg_si)
          have kn_192 : Hid (c_78 A 2 = si) := (hF_80 A 2 (fun h => absurd h.1 (np0 hA rfl))).trans (hid kn_191)
          have kn_193 : Hid (c_95 A 2 = si) := (hF_97 A 2 (fun q => q.elim (fun h => absurd h.1 (np0 hA rfl)) (fun q => q.elim (fun h => absurd h.1 (np0 hA rfl)) (fun h => absurd h.1 (np0 hA rfl))))).trans (hid kn_192)
          have h_194 := ir_p0_2 hJ9 hA
          have h_195 : m9 A 2 = si := wd_fv (z := 2) 2 rfl hW (ck_p0 hA) (ck_p0 hA) rfl rfl (by omega) (hid kn_193) ⟨by omega, by omega⟩ ⟨by omega, by omega⟩
          have kn_196 : Hid (c_27 A 3 = du) := (hF_29 A 3 (fun h => absurd h.1 (np0 hA rfl))).trans (hg_du)
          have kn_197 : Hid (c_78 A 3 = du) := (hF_80 A 3 (fun h => absurd h.1 (np0 hA rfl))).trans (hid kn_196)
          have kn_198 : Hid (c_95 A 3 = du) := (hF_97 A 3 (fun q => q.elim (fun h => absurd h.1 (np0 hA rfl)) (fun q => q.elim (fun h => absurd h.1 (np0 hA rfl)) (fun h => absurd h.1 (np0 hA rfl))))).trans (hid kn_197)
          have h_199 := ir_p0_3 hJ9 hA
          have h_200 : m9 A 3 = du := wd_fv (z := 3) 3 rfl hW (ck_p0 hA) (ck_p0 hA) rfl rfl (by omega) (hid kn_198) ⟨by omega, by omega⟩ ⟨by omega, by omega⟩
          refine q_aload_n rfl rfl ?_
          refine v_cv rfl rfl rfl rfl (by decide) ⟨⟨rfl, rfl⟩, by decide, rfl⟩ (Nat.le_of_ble_eq_true rfl) (Nat.le_of_ble_eq_true rfl) ?_
          refine q_aload_n rfl rfl ?_
          refine v_gi (z := 5) (v := (-1)) rfl rfl rfl (by decide) rfl rfl (hc_1) ?_
          refine q_iconst rfl ?_
          refine v_ic_ne_f (t := 12) rfl (by decide) (by decide) ?_
          refine q_iconst rfl ?_
          refine q_goto (t := 13) rfl (by decide) ?_
          refine v_zret rfl rfl (by decide) ?_
          refine bk_inl ?_
          refine v_if_eq_f (t := 136) rfl (by decide) (by decide) ?_
          refine q_aload_n rfl rfl ?_
          refine v_cv rfl rfl rfl rfl (by decide) ⟨⟨rfl, rfl⟩, by decide, rfl⟩ (Nat.le_of_ble_eq_true rfl) (Nat.le_of_ble_eq_true rfl) ?_
          refine q_aload_n rfl rfl ?_
          have kn_201 : Hid (c2 41 3 = e1) := (hFc 41 3 (fun q => q.elim (fun h => absurd h.2 (ni rfl)) (fun q => q.elim (fun h => absurd h.2 (ni rfl)) (fun q => q.elim (fun h => absurd h.2 (ni rfl)) (fun q => q.elim (fun h => absurd h.2 (ni rfl)) (fun q => q.elim (fun h => absurd h.2 (ni rfl)) (fun q => q.elim (fun h => absurd h.2 (ni rfl)) (fun q => q.elim (fun h => absurd h.2 (ni rfl)) (fun q => q.elim (fun h => absurd h (nn rfl)) (fun q => q.elim (fun h => absurd h (nn rfl)) (fun h => absurd h (nn rfl)))))))))))).trans (hr_e1)
          have h_202 : -2147483648 ≤ (H (nx F e1 a)) ∧ (H (nx F e1 a)) ≤ 2147483647 := by rw [← hH (nx F e1 a)]; exact ir_43 hI (nx F e1 a)
          have h_203 := hU (nx F e1 a) (by omega) (by omega)
          have h_204 := hb_or (b := H) (e := e1) (r := (nx F e1 a))
          have h_205 := hb_bd (b := H) (e := e1) (r := (nx F e1 a)) (lo := -2147483648) (hi := 2147483647) ⟨by omega, by omega⟩ (by decide)
          refine v_cv rfl rfl rfl rfl (by decide) ⟨⟨rfl, rfl⟩, by decide, rfl⟩ (Nat.le_of_ble_eq_true rfl) (Nat.le_of_ble_eq_true rfl) (f_154 (e1 := e1) (a9 := a) (B := H) (r8 := (nx F e1 a)) (r := (hb H e1 (nx F e1 a))) hI2 ((hid kn_201)) ((hr_a)) (fun j => (hFc 43 j (fun q => q.elim (fun h => absurd h.1 (nn rfl)) (fun q => q.elim (fun h => absurd h.1 (nn rfl)) (fun q => q.elim (fun h => absurd h.1 (nn rfl)) (fun q => q.elim (fun h => absurd h.1 (nn rfl)) (fun q => q.elim (fun h => absurd h.1 (nn rfl)) (fun q => q.elim (fun h => absurd h.1 (nn rfl)) (fun q => q.elim (fun h => absurd h.1 (nn rfl)) (fun q => q.elim (fun h => absurd h (nn rfl)) (fun q => q.elim (fun h => absurd h (nn rfl)) (fun h => absurd h (nn rfl)))))))))))).trans (hH j)) ((nx_tr hU (by omega) (by omega)).trans (rfl)) rfl (fun c_206 hI_207 hF_208 h_209 => ?_))
          refine bk_inl ?_
          refine q_pop rfl rfl ?_
          refine q_aload_n rfl rfl ?_
          refine v_gi (z := 4) (v := (nx F e1 a)) rfl rfl rfl (by decide) rfl rfl (h_209) ?_
          refine q_aload_n rfl rfl ?_
          have kn_210 : Hid (c_206 41 3 = e1) := (hF_208 41 3 (fun h => absurd h.2 (ni rfl))).trans (hid kn_201)
          refine v_gi (z := 3) (v := e1) rfl rfl rfl (by decide) rfl rfl (hid kn_210) ?_
          refine v_ic_ge_f (t := 20) rfl (by decide) (by omega) ?_
          refine q_iconst rfl ?_
          refine q_goto (t := 21) rfl (by decide) ?_
          refine v_zret rfl rfl (by decide) ?_
          refine bk_inl ?_
          refine v_if_eq_f (t := 136) rfl (by decide) (by decide) ?_
          refine q_aload_n rfl rfl ?_
          have h_211 := wv_bd (b := F) (r := (nx F e1 a)) (l := (ln F e1 (nx F e1 a))) (fun j h1 h2 => ⟨(ln_in (e := e1) (a := (nx F e1 a)) h1 (by omega)).1, (ln_in (e := e1) (a := (nx F e1 a)) h1 (by omega)).2.1⟩)
          have hw_212 : Hid (¬ wv F (nx F e1 a) (ln F e1 (nx F e1 a)) = 10290 ∧ ¬ wv F (nx F e1 a) (ln F e1 (nx F e1 a)) = 20594117 ∧ ¬ wv F (nx F e1 a) (ln F e1 (nx F e1 a)) = 20223685 ∧ ¬ wv F (nx F e1 a) (ln F e1 (nx F e1 a)) = 153204) := wr8_4 (b := F) (r := (nx F e1 a)) (l := (ln F e1 (nx F e1 a))) (by omega) (fun j h1 h2 => ⟨(ln_in (e := e1) (a := (nx F e1 a)) h1 (by omega)).1, (ln_in (e := e1) (a := (nx F e1 a)) h1 (by omega)).2.1⟩) (by omega)
          refine v_cv rfl rfl rfl rfl (by decide) ⟨⟨rfl, rfl⟩, by decide, rfl⟩ (Nat.le_of_ble_eq_true rfl) (Nat.le_of_ble_eq_true rfl) (f_157 (e1 := e1) (a9 := (nx F e1 a)) (B := H) (r8 := (nx F e1 a)) (L8 := (ln F e1 (nx F e1 a))) (W8 := (wv F (nx F e1 a) (ln F e1 (nx F e1 a)))) hI_207 ((hid kn_210)) ((h_209)) (fun j => ((hF_208 43 j (fun h => absurd h.1 (nn rfl))).trans (hFc 43 j (fun q => q.elim (fun h => absurd h.1 (nn rfl)) (fun q => q.elim (fun h => absurd h.1 (nn rfl)) (fun q => q.elim (fun h => absurd h.1 (nn rfl)) (fun q => q.elim (fun h => absurd h.1 (nn rfl)) (fun q => q.elim (fun h => absurd h.1 (nn rfl)) (fun q => q.elim (fun h => absurd h.1 (nn rfl)) (fun q => q.elim (fun h => absurd h.1 (nn rfl)) (fun q => q.elim (fun h => absurd h (nn rfl)) (fun q => q.elim (fun h => absurd h (nn rfl)) (fun h => absurd h (nn rfl))))))))))))).trans (hH j)) ((nx_tr hU (by omega) (by omega)).trans ((nx_z (by omega)))) ((ln_tr hU (by omega) (by omega)).trans (rfl)) ((wv_tr hU (by omega) (by omega) (fun j h1 h2 => ⟨(ln_in (e := e1) (a := (nx F e1 a)) h1 (by omega)).1, (ln_in (e := e1) (a := (nx F e1 a)) h1 (by omega)).2.1⟩)).trans (rfl)) (fun c_213 hI_214 hF_215 hz_216 => ?_))
          refine bk_inl ?_
          refine q_istore_n rfl (by decide) ?_
          refine q_iload_n rfl rfl ?_
          refine q_call rfl rfl rfl rfl ?_
          refine q_iload_n rfl rfl ?_
          refine q_ldc_s rfl rfl rfl (by decide) ?_
          refine q_call rfl rfl rfl rfl (s_158_16 ?_)
          refine bk_inl ?_
          refine v_ic_eq_f (t := 36) rfl (by decide) ⟨(hid hw_212).1, ⟨by omega, by omega⟩, by decide, by decide⟩ ?_
          refine q_iload_n rfl rfl ?_
          refine q_ldc_s rfl rfl rfl (by decide) ?_
          refine q_call rfl rfl rfl rfl (s_158_17 ?_)
          refine bk_inl ?_
          refine v_ic_eq_f (t := 36) rfl (by decide) ⟨(hid hw_212).2.1, ⟨by omega, by omega⟩, by decide, by decide⟩ ?_
          refine q_iload_n rfl rfl ?_
          refine q_ldc_s rfl rfl rfl (by decide) ?_
          refine q_call rfl rfl rfl rfl (s_158_18 ?_)
          refine bk_inl ?_
          refine v_ic_eq_f (t := 36) rfl (by decide) ⟨(hid hw_212).2.2.1, ⟨by omega, by omega⟩, by decide, by decide⟩ ?_
          refine q_iload_n rfl rfl ?_
          refine q_ldc_s rfl rfl rfl (by decide) ?_
          refine q_call rfl rfl rfl rfl (s_158_19 ?_)
          refine bk_inl ?_
          refine v_ic_ne_t (t := 40) rfl (by decide) ⟨(hid hw_212).2.2.2, ⟨by omega, by omega⟩, by decide, by decide⟩ ?_
          refine q_iconst rfl ?_
          refine v_zret rfl rfl (by decide) ?_
          refine bk_inl ?_
          refine v_if_ne_f (t := 82) rfl (by decide) (by decide) ?_
          refine q_aload_n rfl rfl ?_
          refine q_iconst rfl ?_
          refine q_aload_n rfl rfl ?_
          refine v_gi (z := 4) (v := (nx F e1 a)) rfl rfl rfl (by decide) rfl rfl (hz_216) ?_
          refine v_cv rfl rfl rfl rfl (by decide) ⟨⟨rfl, rfl⟩, by decide, rfl⟩ (Nat.le_of_ble_eq_true rfl) (Nat.le_of_ble_eq_true rfl) ?_
          refine q_aload_n rfl rfl ?_
          have kn_217 : Hid (c_206 41 5 = (-1)) := (hF_208 41 5 (fun h => absurd h.2 (ni rfl))).trans (hc_1)
          have kn_218 : Hid (c_213 41 5 = (-1)) := (hF_215 41 5 (fun h => absurd h.2 (ni rfl))).trans (hid kn_217)
          refine v_gi (z := 5) (v := (-1)) rfl rfl rfl (by decide) rfl rfl (hid kn_218) ?_
          refine q_iconst rfl ?_
          refine v_ic_eq_t (t := 9) rfl (by decide) (by decide) ?_
          refine q_aload_n rfl rfl ?_
          refine q_iload_n rfl rfl ?_
          refine v_pi (z := 5) rfl rfl rfl (by decide) rfl rfl rfl (by decide) ?_
          refine q_aload_n rfl rfl ?_
          refine q_iload_n rfl rfl ?_
          refine v_pi (z := 6) rfl rfl rfl (by decide) rfl rfl rfl (by decide) ?_
          refine q_vret rfl rfl ?_
          refine bk_inl ?_
          refine q_goto (t := 105) rfl (by decide) ?_
          refine q_aload_n rfl rfl ?_
          refine v_cv rfl rfl rfl rfl (by decide) ⟨⟨rfl, rfl⟩, by decide, rfl⟩ (Nat.le_of_ble_eq_true rfl) (Nat.le_of_ble_eq_true rfl) ?_
          refine q_aload_n rfl rfl ?_
          refine v_gi (z := 5) (v := (nx F e1 a)) rfl rfl rfl (by decide) rfl rfl ((up_n (by decide)).trans (up_e rfl)) ?_
          refine q_iconst rfl ?_
          refine v_ic_ne_t (t := 12) rfl (by decide) (by omega) ?_
          refine q_iconst rfl ?_
          refine v_zret rfl rfl (by decide) ?_
          refine bk_inl ?_
          refine v_if_ne_f (t := 115) rfl (by decide) (by decide) ?_
          refine q_goto (t := 136) rfl (by decide) ?_
          refine Wp_ls [(0, .ref 41), (1, vi a1)] (lsub_cons rfl (lsub_cons rfl lsub_nil)) ?_
          have hI_219 := iw_41_5 (v := (nx F e1 a)) hI_214 ⟨by omega, by omega⟩
          have hI_220 := iw_41_6 (v := 1) hI_219 ⟨by decide, by decide⟩
          have h_221 : (up (up c_213 41 5 (nx F e1 a)) 41 6 1) 41 5 = (nx F e1 a) := ((up_n (by decide)).trans (up_e rfl))
          have h_222 : (up (up c_213 41 5 (nx F e1 a)) 41 6 1) 41 4 = (nx F e1 a) := ((up_n (by decide)).trans ((up_n (by decide)).trans (hz_216)))
          have h_223 : (up (up c_213 41 5 (nx F e1 a)) 41 6 1) 41 6 = 1 := (up_e rfl)
          have kn_224 : Hid (c_206 41 16 = jr) := (hF_208 41 16 (fun h => absurd h.2 (ni rfl))).trans (hr_jr)
          have kn_225 : Hid (c_213 41 16 = jr) := (hF_215 41 16 (fun h => absurd h.2 (ni rfl))).trans (hid kn_224)
          have h_226 : (up (up c_213 41 5 (nx F e1 a)) 41 6 1) 41 16 = jr := ((up_n (by decide)).trans ((up_n (by decide)).trans (hid kn_225)))
          have kn_227 : Hid (c_206 41 17 = st) := (hF_208 41 17 (fun h => absurd h.2 (ni rfl))).trans (hr_st)
          have kn_228 : Hid (c_213 41 17 = st) := (hF_215 41 17 (fun h => absurd h.2 (ni rfl))).trans (hid kn_227)
          have h_229 : (up (up c_213 41 5 (nx F e1 a)) 41 6 1) 41 17 = st := ((up_n (by decide)).trans ((up_n (by decide)).trans (hid kn_228)))
          have kn_230 : Hid (c_206 41 18 = si) := (hF_208 41 18 (fun h => absurd h.2 (ni rfl))).trans (hr_si)
          have kn_231 : Hid (c_213 41 18 = si) := (hF_215 41 18 (fun h => absurd h.2 (ni rfl))).trans (hid kn_230)
          have h_232 : (up (up c_213 41 5 (nx F e1 a)) 41 6 1) 41 18 = si := ((up_n (by decide)).trans ((up_n (by decide)).trans (hid kn_231)))
          have kn_233 : Hid (c_206 41 19 = du) := (hF_208 41 19 (fun h => absurd h.2 (ni rfl))).trans (hr_du)
          have kn_234 : Hid (c_213 41 19 = du) := (hF_215 41 19 (fun h => absurd h.2 (ni rfl))).trans (hid kn_233)
          have h_235 : (up (up c_213 41 5 (nx F e1 a)) 41 6 1) 41 19 = du := ((up_n (by decide)).trans ((up_n (by decide)).trans (hid kn_234)))
          exact K (up (up c_213 41 5 (nx F e1 a)) 41 6 1)  hI_220 (fun a j hm => (up_b (Decidable.or_iff_not_imp_left.mpr (fun h1 h2 => hm (Or.inr (Or.inr (Or.inl ⟨Decidable.not_not.mp h1, h2⟩)))))).trans ((up_b (Decidable.or_iff_not_imp_left.mpr (fun h1 h2 => hm (Or.inr (Or.inl ⟨Decidable.not_not.mp h1, h2⟩))))).trans ((hF_215 a j (fun h => hm (Or.inl h))).trans ((hF_208 a j (fun h => hm (Or.inl h))).trans (hFc a j (fun q => q.elim (fun h => hm (Or.inl h)) (fun q => q.elim (fun h => hm (Or.inr (Or.inl h))) (fun q => q.elim (fun h => hm (Or.inr (Or.inr (Or.inl h)))) (fun q => q.elim (fun h => hm (Or.inr (Or.inr (Or.inr (Or.inl h))))) (fun q => q.elim (fun h => hm (Or.inr (Or.inr (Or.inr (Or.inr (Or.inl h)))))) (fun q => q.elim (fun h => hm (Or.inr (Or.inr (Or.inr (Or.inr (Or.inr (Or.inl h))))))) (fun q => q.elim (fun h => hm (Or.inr (Or.inr (Or.inr (Or.inr (Or.inr (Or.inr (Or.inl h)))))))) (fun q => q.elim (fun h => hm (Or.inr (Or.inr (Or.inr (Or.inr (Or.inr (Or.inr (Or.inr (Or.inl h))))))))) (fun q => q.elim (fun h => hm (Or.inr (Or.inr (Or.inr (Or.inr (Or.inr (Or.inr (Or.inr (Or.inr (Or.inl h)))))))))) (fun h => hm (Or.inr (Or.inr (Or.inr (Or.inr (Or.inr (Or.inr (Or.inr (Or.inr (Or.inr h)))))))))))))))))))))))) (by unfold Rt; omega) (by omega)
      · skip
        refine bk_inl ?_
        refine q_istore rfl (by decide) ?_
        refine q_iload rfl rfl ?_
        refine q_iconst rfl ?_
        refine v_ic_eq_f (t := 59) rfl (by decide) (by omega) ?_
        refine q_iload_n rfl rfl ?_
        refine v_bip rfl (by decide) ?_
        by_cases h_236 : v = 60
        · refine v_ic_eq_t (t := 53) rfl (by decide) (by omega) ?_
          refine q_aload_n rfl rfl ?_
          refine q_iconst rfl ?_
          refine q_iload_n rfl rfl ?_
          refine v_cv rfl rfl rfl rfl (by decide) ⟨⟨rfl, rfl⟩, by decide, rfl⟩ (Nat.le_of_ble_eq_true rfl) (Nat.le_of_ble_eq_true rfl) ?_
          refine q_aload_n rfl rfl ?_
          refine v_gi (z := 4) (v := 0) rfl rfl rfl (by decide) rfl rfl (hz_109) ?_
          refine v_if_ne_f (t := 17) rfl (by decide) (by decide) ?_
          refine q_aload_n rfl rfl ?_
          refine q_iload_n rfl rfl ?_
          refine v_pi (z := 4) rfl rfl rfl (by decide) rfl rfl rfl (by decide) ?_
          refine q_aload_n rfl rfl ?_
          refine q_iload_n rfl rfl ?_
          refine v_pi (z := 5) rfl rfl rfl (by decide) rfl rfl rfl (by decide) ?_
          refine q_vret rfl rfl ?_
          refine bk_inl ?_
          refine q_aload_n rfl rfl ?_
          refine v_cv rfl rfl rfl rfl (by decide) ⟨⟨rfl, rfl⟩, by decide, rfl⟩ (Nat.le_of_ble_eq_true rfl) (Nat.le_of_ble_eq_true rfl) ?_
          refine q_aload_n rfl rfl ?_
          refine v_gi (z := 4) (v := 3) rfl rfl rfl (by decide) rfl rfl ((up_n (by decide)).trans (up_e rfl)) ?_
          refine v_if_ne_t (t := 11) rfl (by decide) (by decide) ?_
          refine q_iconst rfl ?_
          refine v_zret rfl rfl (by decide) ?_
          refine bk_inl ?_
          refine v_if_eq_t (t := 73) rfl (by decide) (by decide) ?_
          refine q_aload_n rfl rfl ?_
          refine q_ldc_s rfl rfl rfl (by decide) ?_
          refine v_cv rfl rfl rfl rfl (by decide) ⟨⟨rfl, rfl⟩, by decide, rfl⟩ (Nat.le_of_ble_eq_true rfl) (Nat.le_of_ble_eq_true rfl) ?_
          refine q_aload_n rfl rfl ?_
          refine v_cv rfl rfl rfl rfl (by decide) ⟨⟨rfl, rfl⟩, by decide, rfl⟩ (Nat.le_of_ble_eq_true rfl) (Nat.le_of_ble_eq_true rfl) ?_
          refine q_aload_n rfl rfl ?_
          refine v_gi (z := 4) (v := 3) rfl rfl rfl (by decide) rfl rfl ((up_n (by decide)).trans (up_e rfl)) ?_
          refine v_if_ne_t (t := 11) rfl (by decide) (by decide) ?_
          refine q_iconst rfl ?_
          refine v_zret rfl rfl (by decide) ?_
          refine bk_inl ?_
          refine v_if_eq_t (t := 25) rfl (by decide) (by decide) ?_
          refine q_vret rfl rfl ?_
          refine bk_inl ?_
          refine v_iinc (v := v + 1) rfl rfl (by decide) (by omega) ?_
          refine q_goto (t := 6) rfl (by decide) ?_
          refine q_iload_n rfl rfl ?_
          refine v_bip rfl (by decide) ?_
          refine v_ic_gt_t (t := 85) rfl (by decide) (by omega) ?_
          refine q_vret rfl rfl ?_
          have hI_237 := iw_1_4 (v := 3) hI_104 ⟨by decide, by decide⟩
          have hI_238 := iw_1_5 (v := (nx F e1 a)) hI_237 ⟨by omega, by omega⟩
          intro hE_239
          have hW : Wd P Q P P (up (up c_103 1 4 3) 1 5 (nx F e1 a)) = Wd P Q P P m9 := (Prod.mk.inj (Prod.mk.inj hE_239).2).1
          have h_240 := ir_1_4 hJ9
          have h_241 : m9 1 4 = 3 := wd_fv (z := 4) 4 rfl hW rfl rfl rfl rfl (by decide) ((up_n (by decide)).trans (up_e rfl)) ⟨by omega, by omega⟩ ⟨by omega, by omega⟩
          have h_242 := ir_1_2 hJ9
          have h_243 : m9 1 2 = (ln F e1 (nx F e1 a)) := wd_fv (z := 2) 2 rfl hW rfl rfl rfl rfl (by decide) ((up_n (by decide)).trans ((up_n (by decide)).trans (hz_108))) ⟨by omega, by omega⟩ ⟨by omega, by omega⟩
          have h_244 := ir_1_5 hJ9
          have h_245 : m9 1 5 = (nx F e1 a) := wd_fv (z := 5) 5 rfl hW rfl rfl rfl rfl (by decide) (up_e rfl) ⟨by omega, by omega⟩ ⟨by omega, by omega⟩
          have kn_246 : Hid (c_27 A 0 = jr) := (hF_29 A 0 (fun h => absurd h.1 (np0 hA rfl))).trans (hg_jr)
          have kn_247 : Hid (c_78 A 0 = jr) := (hF_80 A 0 (fun h => absurd h.1 (np0 hA rfl))).trans (hid kn_246)
          have kn_248 : Hid (c_103 A 0 = jr) := (hF_105 A 0 (fun q => q.elim (fun h => absurd h.1 (np0 hA rfl)) (fun q => q.elim (fun h => absurd h.1 (np0 hA rfl)) (fun h => absurd h.1 (np0 hA rfl))))).trans (hid kn_247)
          have h_249 := ir_p0_0 hJ9 hA
          have h_250 : m9 A 0 = jr := wd_fv (z := 0) 0 rfl hW (ck_p0 hA) (ck_p0 hA) rfl rfl (by omega) ((up_c (np0 hA rfl)).trans ((up_c (np0 hA rfl)).trans (hid kn_248))) ⟨by omega, by omega⟩ ⟨by omega, by omega⟩
          have kn_251 : Hid (c_27 A 1 = st) := (hF_29 A 1 (fun h => absurd h.1 (np0 hA rfl))).trans (hg_st)
          have kn_252 : Hid (c_78 A 1 = st) := (hF_80 A 1 (fun h => absurd h.1 (np0 hA rfl))).trans (hid kn_251)
          have kn_253 : Hid (c_103 A 1 = st) := (hF_105 A 1 (fun q => q.elim (fun h => absurd h.1 (np0 hA rfl)) (fun q => q.elim (fun h => absurd h.1 (np0 hA rfl)) (fun h => absurd h.1 (np0 hA rfl))))).trans (hid kn_252)
          have h_254 := ir_p0_1 hJ9 hA
          have h_255 : m9 A 1 = st := wd_fv (z := 1) 1 rfl hW (ck_p0 hA) (ck_p0 hA) rfl rfl (by omega) ((up_c (np0 hA rfl)).trans ((up_c (np0 hA rfl)).trans (hid kn_253))) ⟨by omega, by omega⟩ ⟨by omega, by omega⟩
          have kn_256 : Hid (c_27 A 2 = si) := (hF_29 A 2 (fun h => absurd h.1 (np0 hA rfl))).trans (hg_si)
          have kn_257 : Hid (c_78 A 2 = si) := (hF_80 A 2 (fun h => absurd h.1 (np0 hA rfl))).trans (hid kn_256)
          have kn_258 : Hid (c_103 A 2 = si) := (hF_105 A 2 (fun q => q.elim (fun h => absurd h.1 (np0 hA rfl)) (fun q => q.elim (fun h => absurd h.1 (np0 hA rfl)) (fun h => absurd h.1 (np0 hA rfl))))).trans (hid kn_257)
          have h_259 := ir_p0_2 hJ9 hA
          have h_260 : m9 A 2 = si := wd_fv (z := 2) 2 rfl hW (ck_p0 hA) (ck_p0 hA) rfl rfl (by omega) ((up_c (np0 hA rfl)).trans ((up_c (np0 hA rfl)).trans (hid kn_258))) ⟨by omega, by omega⟩ ⟨by omega, by omega⟩
          have kn_261 : Hid (c_27 A 3 = du) := (hF_29 A 3 (fun h => absurd h.1 (np0 hA rfl))).trans (hg_du)
          have kn_262 : Hid (c_78 A 3 = du) := (hF_80 A 3 (fun h => absurd h.1 (np0 hA rfl))).trans (hid kn_261)
          have kn_263 : Hid (c_103 A 3 = du) := (hF_105 A 3 (fun q => q.elim (fun h => absurd h.1 (np0 hA rfl)) (fun q => q.elim (fun h => absurd h.1 (np0 hA rfl)) (fun h => absurd h.1 (np0 hA rfl))))).trans (hid kn_262)
          have h_264 := ir_p0_3 hJ9 hA
          have h_265 : m9 A 3 = du := wd_fv (z := 3) 3 rfl hW (ck_p0 hA) (ck_p0 hA) rfl rfl (by omega) ((up_c (np0 hA rfl)).trans ((up_c (np0 hA rfl)).trans (hid kn_263))) ⟨by omega, by omega⟩ ⟨by omega, by omega⟩
          refine q_aload_n rfl rfl ?_
          refine v_cv rfl rfl rfl rfl (by decide) ⟨⟨rfl, rfl⟩, by decide, rfl⟩ (Nat.le_of_ble_eq_true rfl) (Nat.le_of_ble_eq_true rfl) ?_
          refine q_aload_n rfl rfl ?_
          refine v_gi (z := 5) (v := (-1)) rfl rfl rfl (by decide) rfl rfl (hc_1) ?_
          refine q_iconst rfl ?_
          refine v_ic_ne_f (t := 12) rfl (by decide) (by decide) ?_
          refine q_iconst rfl ?_
          refine q_goto (t := 13) rfl (by decide) ?_
          refine v_zret rfl rfl (by decide) ?_
          refine bk_inl ?_
          refine v_if_eq_f (t := 136) rfl (by decide) (by decide) ?_
          refine q_aload_n rfl rfl ?_
          refine v_cv rfl rfl rfl rfl (by decide) ⟨⟨rfl, rfl⟩, by decide, rfl⟩ (Nat.le_of_ble_eq_true rfl) (Nat.le_of_ble_eq_true rfl) ?_
          refine q_aload_n rfl rfl ?_
          have kn_266 : Hid (c2 41 3 = e1) := (hFc 41 3 (fun q => q.elim (fun h => absurd h.2 (ni rfl)) (fun q => q.elim (fun h => absurd h.2 (ni rfl)) (fun q => q.elim (fun h => absurd h.2 (ni rfl)) (fun q => q.elim (fun h => absurd h.2 (ni rfl)) (fun q => q.elim (fun h => absurd h.2 (ni rfl)) (fun q => q.elim (fun h => absurd h.2 (ni rfl)) (fun q => q.elim (fun h => absurd h.2 (ni rfl)) (fun q => q.elim (fun h => absurd h (nn rfl)) (fun q => q.elim (fun h => absurd h (nn rfl)) (fun h => absurd h (nn rfl)))))))))))).trans (hr_e1)
          have h_267 : -2147483648 ≤ (H (nx F e1 a)) ∧ (H (nx F e1 a)) ≤ 2147483647 := by rw [← hH (nx F e1 a)]; exact ir_43 hI (nx F e1 a)
          have h_268 := hU (nx F e1 a) (by omega) (by omega)
          have h_269 := hb_or (b := H) (e := e1) (r := (nx F e1 a))
          have h_270 := hb_bd (b := H) (e := e1) (r := (nx F e1 a)) (lo := -2147483648) (hi := 2147483647) ⟨by omega, by omega⟩ (by decide)
          refine v_cv rfl rfl rfl rfl (by decide) ⟨⟨rfl, rfl⟩, by decide, rfl⟩ (Nat.le_of_ble_eq_true rfl) (Nat.le_of_ble_eq_true rfl) (f_154 (e1 := e1) (a9 := a) (B := H) (r8 := (nx F e1 a)) (r := (hb H e1 (nx F e1 a))) hI2 ((hid kn_266)) ((hr_a)) (fun j => (hFc 43 j (fun q => q.elim (fun h => absurd h.1 (nn rfl)) (fun q => q.elim (fun h => absurd h.1 (nn rfl)) (fun q => q.elim (fun h => absurd h.1 (nn rfl)) (fun q => q.elim (fun h => absurd h.1 (nn rfl)) (fun q => q.elim (fun h => absurd h.1 (nn rfl)) (fun q => q.elim (fun h => absurd h.1 (nn rfl)) (fun q => q.elim (fun h => absurd h.1 (nn rfl)) (fun q => q.elim (fun h => absurd h (nn rfl)) (fun q => q.elim (fun h => absurd h (nn rfl)) (fun h => absurd h (nn rfl)))))))))))).trans (hH j)) ((nx_tr hU (by omega) (by omega)).trans (rfl)) rfl (fun c_271 hI_272 hF_273 h_274 => ?_))
          refine bk_inl ?_
          refine q_pop rfl rfl ?_
          refine q_aload_n rfl rfl ?_
          refine v_gi (z := 4) (v := (nx F e1 a)) rfl rfl rfl (by decide) rfl rfl (h_274) ?_
          refine q_aload_n rfl rfl ?_
          have kn_275 : Hid (c_271 41 3 = e1) := (hF_273 41 3 (fun h => absurd h.2 (ni rfl))).trans (hid kn_266)
          refine v_gi (z := 3) (v := e1) rfl rfl rfl (by decide) rfl rfl (hid kn_275) ?_
          refine v_ic_ge_f (t := 20) rfl (by decide) (by omega) ?_
          refine q_iconst rfl ?_
          refine q_goto (t := 21) rfl (by decide) ?_
          refine v_zret rfl rfl (by decide) ?_
          refine bk_inl ?_
          refine v_if_eq_f (t := 136) rfl (by decide) (by decide) ?_
          refine q_aload_n rfl rfl ?_
          have h_276 := wv_bd (b := F) (r := (nx F e1 a)) (l := (ln F e1 (nx F e1 a))) (fun j h1 h2 => ⟨(ln_in (e := e1) (a := (nx F e1 a)) h1 (by omega)).1, (ln_in (e := e1) (a := (nx F e1 a)) h1 (by omega)).2.1⟩)
          have h_277 := wr8 (b := F) (r := (nx F e1 a)) (l := (ln F e1 (nx F e1 a))) (by omega) (fun j h1 h2 => ⟨(ln_in (e := e1) (a := (nx F e1 a)) h1 (by omega)).1, (ln_in (e := e1) (a := (nx F e1 a)) h1 (by omega)).2.1⟩)
          refine v_cv rfl rfl rfl rfl (by decide) ⟨⟨rfl, rfl⟩, by decide, rfl⟩ (Nat.le_of_ble_eq_true rfl) (Nat.le_of_ble_eq_true rfl) (f_157 (e1 := e1) (a9 := (nx F e1 a)) (B := H) (r8 := (nx F e1 a)) (L8 := (ln F e1 (nx F e1 a))) (W8 := (wv F (nx F e1 a) (ln F e1 (nx F e1 a)))) hI_272 ((hid kn_275)) ((h_274)) (fun j => ((hF_273 43 j (fun h => absurd h.1 (nn rfl))).trans (hFc 43 j (fun q => q.elim (fun h => absurd h.1 (nn rfl)) (fun q => q.elim (fun h => absurd h.1 (nn rfl)) (fun q => q.elim (fun h => absurd h.1 (nn rfl)) (fun q => q.elim (fun h => absurd h.1 (nn rfl)) (fun q => q.elim (fun h => absurd h.1 (nn rfl)) (fun q => q.elim (fun h => absurd h.1 (nn rfl)) (fun q => q.elim (fun h => absurd h.1 (nn rfl)) (fun q => q.elim (fun h => absurd h (nn rfl)) (fun q => q.elim (fun h => absurd h (nn rfl)) (fun h => absurd h (nn rfl))))))))))))).trans (hH j)) ((nx_tr hU (by omega) (by omega)).trans ((nx_z (by omega)))) ((ln_tr hU (by omega) (by omega)).trans (rfl)) ((wv_tr hU (by omega) (by omega) (fun j h1 h2 => ⟨(ln_in (e := e1) (a := (nx F e1 a)) h1 (by omega)).1, (ln_in (e := e1) (a := (nx F e1 a)) h1 (by omega)).2.1⟩)).trans (rfl)) (fun c_278 hI_279 hF_280 hz_281 => ?_))
          refine bk_inl ?_
          refine q_istore_n rfl (by decide) ?_
          refine q_iload_n rfl rfl ?_
          refine q_call rfl rfl rfl rfl ?_
          refine q_iload_n rfl rfl ?_
          refine q_ldc_s rfl rfl rfl (by decide) ?_
          refine q_call rfl rfl rfl rfl (s_158_16 ?_)
          refine bk_inl ?_
          by_cases h_282 : (wv F (nx F e1 a) (ln F e1 (nx F e1 a))) = 10290
          · refine v_ic_eq_t (t := 36) rfl (by decide) (by omega) ?_
            refine q_iconst rfl ?_
            refine q_goto (t := 41) rfl (by decide) ?_
            refine v_zret rfl rfl (by decide) ?_
            refine bk_inl ?_
            refine v_if_ne_t (t := 82) rfl (by decide) (by decide) ?_
            refine q_iload_n rfl rfl ?_
            refine v_bip rfl (by decide) ?_
            refine v_ic_eq_t (t := 96) rfl (by decide) (by omega) ?_
            refine q_aload_n rfl rfl ?_
            refine q_iconst rfl ?_
            refine q_aload_n rfl rfl ?_
            refine v_gi (z := 4) (v := (nx F e1 a)) rfl rfl rfl (by decide) rfl rfl (hz_281) ?_
            refine v_cv rfl rfl rfl rfl (by decide) ⟨⟨rfl, rfl⟩, by decide, rfl⟩ (Nat.le_of_ble_eq_true rfl) (Nat.le_of_ble_eq_true rfl) ?_
            refine q_aload_n rfl rfl ?_
            have kn_283 : Hid (c_271 41 5 = (-1)) := (hF_273 41 5 (fun h => absurd h.2 (ni rfl))).trans (hc_1)
            have kn_284 : Hid (c_278 41 5 = (-1)) := (hF_280 41 5 (fun h => absurd h.2 (ni rfl))).trans (hid kn_283)
            refine v_gi (z := 5) (v := (-1)) rfl rfl rfl (by decide) rfl rfl (hid kn_284) ?_
            refine q_iconst rfl ?_
            refine v_ic_eq_t (t := 9) rfl (by decide) (by decide) ?_
            refine q_aload_n rfl rfl ?_
            refine q_iload_n rfl rfl ?_
            refine v_pi (z := 5) rfl rfl rfl (by decide) rfl rfl rfl (by decide) ?_
            refine q_aload_n rfl rfl ?_
            refine q_iload_n rfl rfl ?_
            refine v_pi (z := 6) rfl rfl rfl (by decide) rfl rfl rfl (by decide) ?_
            refine q_vret rfl rfl ?_
            refine bk_inl ?_
            refine q_aload_n rfl rfl ?_
            refine v_cv rfl rfl rfl rfl (by decide) ⟨⟨rfl, rfl⟩, by decide, rfl⟩ (Nat.le_of_ble_eq_true rfl) (Nat.le_of_ble_eq_true rfl) ?_
            refine q_aload_n rfl rfl ?_
            refine v_gi (z := 5) (v := (nx F e1 a)) rfl rfl rfl (by decide) rfl rfl ((up_n (by decide)).trans (up_e rfl)) ?_
            refine q_iconst rfl ?_
            refine v_ic_ne_t (t := 12) rfl (by decide) (by omega) ?_
            refine q_iconst rfl ?_
            refine v_zret rfl rfl (by decide) ?_
            refine bk_inl ?_
            refine v_if_ne_f (t := 115) rfl (by decide) (by decide) ?_
            refine q_goto (t := 136) rfl (by decide) ?_
            refine Wp_ls [(0, .ref 41), (1, vi a1)] (lsub_cons rfl (lsub_cons rfl lsub_nil)) ?_
            have hI_285 := iw_41_5 (v := (nx F e1 a)) hI_279 ⟨by omega, by omega⟩
            have hI_286 := iw_41_6 (v := 3) hI_285 ⟨by decide, by decide⟩
            have h_287 : (up (up c_278 41 5 (nx F e1 a)) 41 6 3) 41 5 = (nx F e1 a) := ((up_n (by decide)).trans (up_e rfl))
            have h_288 : (up (up c_278 41 5 (nx F e1 a)) 41 6 3) 41 4 = (nx F e1 a) := ((up_n (by decide)).trans ((up_n (by decide)).trans (hz_281)))
            have h_289 : (up (up c_278 41 5 (nx F e1 a)) 41 6 3) 41 6 = 3 := (up_e rfl)
            have kn_290 : Hid (c_271 41 16 = jr) := (hF_273 41 16 (fun h => absurd h.2 (ni rfl))).trans (hr_jr)
            have kn_291 : Hid (c_278 41 16 = jr) := (hF_280 41 16 (fun h => absurd h.2 (ni rfl))).trans (hid kn_290)
            have h_292 : (up (up c_278 41 5 (nx F e1 a)) 41 6 3) 41 16 = jr := ((up_n (by decide)).trans ((up_n (by decide)).trans (hid kn_291)))
            have kn_293 : Hid (c_271 41 17 = st) := (hF_273 41 17 (fun h => absurd h.2 (ni rfl))).trans (hr_st)
            have kn_294 : Hid (c_278 41 17 = st) := (hF_280 41 17 (fun h => absurd h.2 (ni rfl))).trans (hid kn_293)
            have h_295 : (up (up c_278 41 5 (nx F e1 a)) 41 6 3) 41 17 = st := ((up_n (by decide)).trans ((up_n (by decide)).trans (hid kn_294)))
            have kn_296 : Hid (c_271 41 18 = si) := (hF_273 41 18 (fun h => absurd h.2 (ni rfl))).trans (hr_si)
            have kn_297 : Hid (c_278 41 18 = si) := (hF_280 41 18 (fun h => absurd h.2 (ni rfl))).trans (hid kn_296)
            have h_298 : (up (up c_278 41 5 (nx F e1 a)) 41 6 3) 41 18 = si := ((up_n (by decide)).trans ((up_n (by decide)).trans (hid kn_297)))
            have kn_299 : Hid (c_271 41 19 = du) := (hF_273 41 19 (fun h => absurd h.2 (ni rfl))).trans (hr_du)
            have kn_300 : Hid (c_278 41 19 = du) := (hF_280 41 19 (fun h => absurd h.2 (ni rfl))).trans (hid kn_299)
            have h_301 : (up (up c_278 41 5 (nx F e1 a)) 41 6 3) 41 19 = du := ((up_n (by decide)).trans ((up_n (by decide)).trans (hid kn_300)))
            exact K (up (up c_278 41 5 (nx F e1 a)) 41 6 3)  hI_286 (fun a j hm => (up_b (Decidable.or_iff_not_imp_left.mpr (fun h1 h2 => hm (Or.inr (Or.inr (Or.inl ⟨Decidable.not_not.mp h1, h2⟩)))))).trans ((up_b (Decidable.or_iff_not_imp_left.mpr (fun h1 h2 => hm (Or.inr (Or.inl ⟨Decidable.not_not.mp h1, h2⟩))))).trans ((hF_280 a j (fun h => hm (Or.inl h))).trans ((hF_273 a j (fun h => hm (Or.inl h))).trans (hFc a j (fun q => q.elim (fun h => hm (Or.inl h)) (fun q => q.elim (fun h => hm (Or.inr (Or.inl h))) (fun q => q.elim (fun h => hm (Or.inr (Or.inr (Or.inl h)))) (fun q => q.elim (fun h => hm (Or.inr (Or.inr (Or.inr (Or.inl h))))) (fun q => q.elim (fun h => hm (Or.inr (Or.inr (Or.inr (Or.inr (Or.inl h)))))) (fun q => q.elim (fun h => hm (Or.inr (Or.inr (Or.inr (Or.inr (Or.inr (Or.inl h))))))) (fun q => q.elim (fun h => hm (Or.inr (Or.inr (Or.inr (Or.inr (Or.inr (Or.inr (Or.inl h)))))))) (fun q => q.elim (fun h => hm (Or.inr (Or.inr (Or.inr (Or.inr (Or.inr (Or.inr (Or.inr (Or.inl h))))))))) (fun q => q.elim (fun h => hm (Or.inr (Or.inr (Or.inr (Or.inr (Or.inr (Or.inr (Or.inr (Or.inr (Or.inl h)))))))))) (fun h => hm (Or.inr (Or.inr (Or.inr (Or.inr (Or.inr (Or.inr (Or.inr (Or.inr (Or.inr h)))))))))))))))))))))))) (by unfold Rt; omega) (by omega)
          · refine v_ic_eq_f (t := 36) rfl (by decide) (by omega) ?_
            refine q_iload_n rfl rfl ?_
            refine q_ldc_s rfl rfl rfl (by decide) ?_
            refine q_call rfl rfl rfl rfl (s_158_17 ?_)
            refine bk_inl ?_
            by_cases h_302 : (wv F (nx F e1 a) (ln F e1 (nx F e1 a))) = 20594117
            · refine v_ic_eq_t (t := 36) rfl (by decide) (by omega) ?_
              refine q_iconst rfl ?_
              refine q_goto (t := 41) rfl (by decide) ?_
              refine v_zret rfl rfl (by decide) ?_
              refine bk_inl ?_
              refine v_if_ne_t (t := 82) rfl (by decide) (by decide) ?_
              refine q_iload_n rfl rfl ?_
              refine v_bip rfl (by decide) ?_
              refine v_ic_eq_t (t := 96) rfl (by decide) (by omega) ?_
              refine q_aload_n rfl rfl ?_
              refine q_iconst rfl ?_
              refine q_aload_n rfl rfl ?_
              refine v_gi (z := 4) (v := (nx F e1 a)) rfl rfl rfl (by decide) rfl rfl (hz_281) ?_
              refine v_cv rfl rfl rfl rfl (by decide) ⟨⟨rfl, rfl⟩, by decide, rfl⟩ (Nat.le_of_ble_eq_true rfl) (Nat.le_of_ble_eq_true rfl) ?_
              refine q_aload_n rfl rfl ?_
              have kn_303 : Hid (c_271 41 5 = (-1)) := (hF_273 41 5 (fun h => absurd h.2 (ni rfl))).trans (hc_1)
              have kn_304 : Hid (c_278 41 5 = (-1)) := (hF_280 41 5 (fun h => absurd h.2 (ni rfl))).trans (hid kn_303)
              refine v_gi (z := 5) (v := (-1)) rfl rfl rfl (by decide) rfl rfl (hid kn_304) ?_
              refine q_iconst rfl ?_
              refine v_ic_eq_t (t := 9) rfl (by decide) (by decide) ?_
              refine q_aload_n rfl rfl ?_
              refine q_iload_n rfl rfl ?_
              refine v_pi (z := 5) rfl rfl rfl (by decide) rfl rfl rfl (by decide) ?_
              refine q_aload_n rfl rfl ?_
              refine q_iload_n rfl rfl ?_
              refine v_pi (z := 6) rfl rfl rfl (by decide) rfl rfl rfl (by decide) ?_
              refine q_vret rfl rfl ?_
              refine bk_inl ?_
              refine q_aload_n rfl rfl ?_
              refine v_cv rfl rfl rfl rfl (by decide) ⟨⟨rfl, rfl⟩, by decide, rfl⟩ (Nat.le_of_ble_eq_true rfl) (Nat.le_of_ble_eq_true rfl) ?_
              refine q_aload_n rfl rfl ?_
              refine v_gi (z := 5) (v := (nx F e1 a)) rfl rfl rfl (by decide) rfl rfl ((up_n (by decide)).trans (up_e rfl)) ?_
              refine q_iconst rfl ?_
              refine v_ic_ne_t (t := 12) rfl (by decide) (by omega) ?_
              refine q_iconst rfl ?_
              refine v_zret rfl rfl (by decide) ?_
              refine bk_inl ?_
              refine v_if_ne_f (t := 115) rfl (by decide) (by decide) ?_
              refine q_goto (t := 136) rfl (by decide) ?_
              refine Wp_ls [(0, .ref 41), (1, vi a1)] (lsub_cons rfl (lsub_cons rfl lsub_nil)) ?_
              have hI_305 := iw_41_5 (v := (nx F e1 a)) hI_279 ⟨by omega, by omega⟩
              have hI_306 := iw_41_6 (v := 3) hI_305 ⟨by decide, by decide⟩
              have h_307 : (up (up c_278 41 5 (nx F e1 a)) 41 6 3) 41 5 = (nx F e1 a) := ((up_n (by decide)).trans (up_e rfl))
              have h_308 : (up (up c_278 41 5 (nx F e1 a)) 41 6 3) 41 4 = (nx F e1 a) := ((up_n (by decide)).trans ((up_n (by decide)).trans (hz_281)))
              have h_309 : (up (up c_278 41 5 (nx F e1 a)) 41 6 3) 41 6 = 3 := (up_e rfl)
              have kn_310 : Hid (c_271 41 16 = jr) := (hF_273 41 16 (fun h => absurd h.2 (ni rfl))).trans (hr_jr)
              have kn_311 : Hid (c_278 41 16 = jr) := (hF_280 41 16 (fun h => absurd h.2 (ni rfl))).trans (hid kn_310)
              have h_312 : (up (up c_278 41 5 (nx F e1 a)) 41 6 3) 41 16 = jr := ((up_n (by decide)).trans ((up_n (by decide)).trans (hid kn_311)))
              have kn_313 : Hid (c_271 41 17 = st) := (hF_273 41 17 (fun h => absurd h.2 (ni rfl))).trans (hr_st)
              have kn_314 : Hid (c_278 41 17 = st) := (hF_280 41 17 (fun h => absurd h.2 (ni rfl))).trans (hid kn_313)
              have h_315 : (up (up c_278 41 5 (nx F e1 a)) 41 6 3) 41 17 = st := ((up_n (by decide)).trans ((up_n (by decide)).trans (hid kn_314)))
              have kn_316 : Hid (c_271 41 18 = si) := (hF_273 41 18 (fun h => absurd h.2 (ni rfl))).trans (hr_si)
              have kn_317 : Hid (c_278 41 18 = si) := (hF_280 41 18 (fun h => absurd h.2 (ni rfl))).trans (hid kn_316)
              have h_318 : (up (up c_278 41 5 (nx F e1 a)) 41 6 3) 41 18 = si := ((up_n (by decide)).trans ((up_n (by decide)).trans (hid kn_317)))
              have kn_319 : Hid (c_271 41 19 = du) := (hF_273 41 19 (fun h => absurd h.2 (ni rfl))).trans (hr_du)
              have kn_320 : Hid (c_278 41 19 = du) := (hF_280 41 19 (fun h => absurd h.2 (ni rfl))).trans (hid kn_319)
              have h_321 : (up (up c_278 41 5 (nx F e1 a)) 41 6 3) 41 19 = du := ((up_n (by decide)).trans ((up_n (by decide)).trans (hid kn_320)))
              exact K (up (up c_278 41 5 (nx F e1 a)) 41 6 3)  hI_306 (fun a j hm => (up_b (Decidable.or_iff_not_imp_left.mpr (fun h1 h2 => hm (Or.inr (Or.inr (Or.inl ⟨Decidable.not_not.mp h1, h2⟩)))))).trans ((up_b (Decidable.or_iff_not_imp_left.mpr (fun h1 h2 => hm (Or.inr (Or.inl ⟨Decidable.not_not.mp h1, h2⟩))))).trans ((hF_280 a j (fun h => hm (Or.inl h))).trans ((hF_273 a j (fun h => hm (Or.inl h))).trans (hFc a j (fun q => q.elim (fun h => hm (Or.inl h)) (fun q => q.elim (fun h => hm (Or.inr (Or.inl h))) (fun q => q.elim (fun h => hm (Or.inr (Or.inr (Or.inl h)))) (fun q => q.elim (fun h => hm (Or.inr (Or.inr (Or.inr (Or.inl h))))) (fun q => q.elim (fun h => hm (Or.inr (Or.inr (Or.inr (Or.inr (Or.inl h)))))) (fun q => q.elim (fun h => hm (Or.inr (Or.inr (Or.inr (Or.inr (Or.inr (Or.inl h))))))) (fun q => q.elim (fun h => hm (Or.inr (Or.inr (Or.inr (Or.inr (Or.inr (Or.inr (Or.inl h)))))))) (fun q => q.elim (fun h => hm (Or.inr (Or.inr (Or.inr (Or.inr (Or.inr (Or.inr (Or.inr (Or.inl h))))))))) (fun q => q.elim (fun h => hm (Or.inr (Or.inr (Or.inr (Or.inr (Or.inr (Or.inr (Or.inr (Or.inr (Or.inl h)))))))))) (fun h => hm (Or.inr (Or.inr (Or.inr (Or.inr (Or.inr (Or.inr (Or.inr (Or.inr (Or.inr h)))))))))))))))))))))))) (by unfold Rt; omega) (by omega)
            · refine v_ic_eq_f (t := 36) rfl (by decide) (by omega) ?_
              refine q_iload_n rfl rfl ?_
              refine q_ldc_s rfl rfl rfl (by decide) ?_
              refine q_call rfl rfl rfl rfl (s_158_18 ?_)
              refine bk_inl ?_
              by_cases h_322 : (wv F (nx F e1 a) (ln F e1 (nx F e1 a))) = 20223685
              · refine v_ic_eq_t (t := 36) rfl (by decide) (by omega) ?_
                refine q_iconst rfl ?_
                refine q_goto (t := 41) rfl (by decide) ?_
                refine v_zret rfl rfl (by decide) ?_
                refine bk_inl ?_
                refine v_if_ne_t (t := 82) rfl (by decide) (by decide) ?_
                refine q_iload_n rfl rfl ?_
                refine v_bip rfl (by decide) ?_
                refine v_ic_eq_t (t := 96) rfl (by decide) (by omega) ?_
                refine q_aload_n rfl rfl ?_
                refine q_iconst rfl ?_
                refine q_aload_n rfl rfl ?_
                refine v_gi (z := 4) (v := (nx F e1 a)) rfl rfl rfl (by decide) rfl rfl (hz_281) ?_
                refine v_cv rfl rfl rfl rfl (by decide) ⟨⟨rfl, rfl⟩, by decide, rfl⟩ (Nat.le_of_ble_eq_true rfl) (Nat.le_of_ble_eq_true rfl) ?_
                refine q_aload_n rfl rfl ?_
                have kn_323 : Hid (c_271 41 5 = (-1)) := (hF_273 41 5 (fun h => absurd h.2 (ni rfl))).trans (hc_1)
                have kn_324 : Hid (c_278 41 5 = (-1)) := (hF_280 41 5 (fun h => absurd h.2 (ni rfl))).trans (hid kn_323)
                refine v_gi (z := 5) (v := (-1)) rfl rfl rfl (by decide) rfl rfl (hid kn_324) ?_
                refine q_iconst rfl ?_
                refine v_ic_eq_t (t := 9) rfl (by decide) (by decide) ?_
                refine q_aload_n rfl rfl ?_
                refine q_iload_n rfl rfl ?_
                refine v_pi (z := 5) rfl rfl rfl (by decide) rfl rfl rfl (by decide) ?_
                refine q_aload_n rfl rfl ?_
                refine q_iload_n rfl rfl ?_
                refine v_pi (z := 6) rfl rfl rfl (by decide) rfl rfl rfl (by decide) ?_
                refine q_vret rfl rfl ?_
                refine bk_inl ?_
                refine q_aload_n rfl rfl ?_
                refine v_cv rfl rfl rfl rfl (by decide) ⟨⟨rfl, rfl⟩, by decide, rfl⟩ (Nat.le_of_ble_eq_true rfl) (Nat.le_of_ble_eq_true rfl) ?_
                refine q_aload_n rfl rfl ?_
                refine v_gi (z := 5) (v := (nx F e1 a)) rfl rfl rfl (by decide) rfl rfl ((up_n (by decide)).trans (up_e rfl)) ?_
                refine q_iconst rfl ?_
                refine v_ic_ne_t (t := 12) rfl (by decide) (by omega) ?_
                refine q_iconst rfl ?_
                refine v_zret rfl rfl (by decide) ?_
                refine bk_inl ?_
                refine v_if_ne_f (t := 115) rfl (by decide) (by decide) ?_
                refine q_goto (t := 136) rfl (by decide) ?_
                refine Wp_ls [(0, .ref 41), (1, vi a1)] (lsub_cons rfl (lsub_cons rfl lsub_nil)) ?_
                have hI_325 := iw_41_5 (v := (nx F e1 a)) hI_279 ⟨by omega, by omega⟩
                have hI_326 := iw_41_6 (v := 3) hI_325 ⟨by decide, by decide⟩
                have h_327 : (up (up c_278 41 5 (nx F e1 a)) 41 6 3) 41 5 = (nx F e1 a) := ((up_n (by decide)).trans (up_e rfl))
                have h_328 : (up (up c_278 41 5 (nx F e1 a)) 41 6 3) 41 4 = (nx F e1 a) := ((up_n (by decide)).trans ((up_n (by decide)).trans (hz_281)))
                have h_329 : (up (up c_278 41 5 (nx F e1 a)) 41 6 3) 41 6 = 3 := (up_e rfl)
                have kn_330 : Hid (c_271 41 16 = jr) := (hF_273 41 16 (fun h => absurd h.2 (ni rfl))).trans (hr_jr)
                have kn_331 : Hid (c_278 41 16 = jr) := (hF_280 41 16 (fun h => absurd h.2 (ni rfl))).trans (hid kn_330)
                have h_332 : (up (up c_278 41 5 (nx F e1 a)) 41 6 3) 41 16 = jr := ((up_n (by decide)).trans ((up_n (by decide)).trans (hid kn_331)))
                have kn_333 : Hid (c_271 41 17 = st) := (hF_273 41 17 (fun h => absurd h.2 (ni rfl))).trans (hr_st)
                have kn_334 : Hid (c_278 41 17 = st) := (hF_280 41 17 (fun h => absurd h.2 (ni rfl))).trans (hid kn_333)
                have h_335 : (up (up c_278 41 5 (nx F e1 a)) 41 6 3) 41 17 = st := ((up_n (by decide)).trans ((up_n (by decide)).trans (hid kn_334)))
                have kn_336 : Hid (c_271 41 18 = si) := (hF_273 41 18 (fun h => absurd h.2 (ni rfl))).trans (hr_si)
                have kn_337 : Hid (c_278 41 18 = si) := (hF_280 41 18 (fun h => absurd h.2 (ni rfl))).trans (hid kn_336)
                have h_338 : (up (up c_278 41 5 (nx F e1 a)) 41 6 3) 41 18 = si := ((up_n (by decide)).trans ((up_n (by decide)).trans (hid kn_337)))
                have kn_339 : Hid (c_271 41 19 = du) := (hF_273 41 19 (fun h => absurd h.2 (ni rfl))).trans (hr_du)
                have kn_340 : Hid (c_278 41 19 = du) := (hF_280 41 19 (fun h => absurd h.2 (ni rfl))).trans (hid kn_339)
                have h_341 : (up (up c_278 41 5 (nx F e1 a)) 41 6 3) 41 19 = du := ((up_n (by decide)).trans ((up_n (by decide)).trans (hid kn_340)))
                exact K (up (up c_278 41 5 (nx F e1 a)) 41 6 3)  hI_326 (fun a j hm => (up_b (Decidable.or_iff_not_imp_left.mpr (fun h1 h2 => hm (Or.inr (Or.inr (Or.inl ⟨Decidable.not_not.mp h1, h2⟩)))))).trans ((up_b (Decidable.or_iff_not_imp_left.mpr (fun h1 h2 => hm (Or.inr (Or.inl ⟨Decidable.not_not.mp h1, h2⟩))))).trans ((hF_280 a j (fun h => hm (Or.inl h))).trans ((hF_273 a j (fun h => hm (Or.inl h))).trans (hFc a j (fun q => q.elim (fun h => hm (Or.inl h)) (fun q => q.elim (fun h => hm (Or.inr (Or.inl h))) (fun q => q.elim (fun h => hm (Or.inr (Or.inr (Or.inl h)))) (fun q => q.elim (fun h => hm (Or.inr (Or.inr (Or.inr (Or.inl h))))) (fun q => q.elim (fun h => hm (Or.inr (Or.inr (Or.inr (Or.inr (Or.inl h)))))) (fun q => q.elim (fun h => hm (Or.inr (Or.inr (Or.inr (Or.inr (Or.inr (Or.inl h))))))) (fun q => q.elim (fun h => hm (Or.inr (Or.inr (Or.inr (Or.inr (Or.inr (Or.inr (Or.inl h)))))))) (fun q => q.elim (fun h => hm (Or.inr (Or.inr (Or.inr (Or.inr (Or.inr (Or.inr (Or.inr (Or.inl h))))))))) (fun q => q.elim (fun h => hm (Or.inr (Or.inr (Or.inr (Or.inr (Or.inr (Or.inr (Or.inr (Or.inr (Or.inl h)))))))))) (fun h => hm (Or.inr (Or.inr (Or.inr (Or.inr (Or.inr (Or.inr (Or.inr (Or.inr (Or.inr h)))))))))))))))))))))))) (by unfold Rt; omega) (by omega)
              · refine v_ic_eq_f (t := 36) rfl (by decide) (by omega) ?_
                refine q_iload_n rfl rfl ?_
                refine q_ldc_s rfl rfl rfl (by decide) ?_
                refine q_call rfl rfl rfl rfl (s_158_19 ?_)
                refine bk_inl ?_
                refine v_ic_ne_f (t := 40) rfl (by decide) (by omega) ?_
                refine q_iconst rfl ?_
                refine q_goto (t := 41) rfl (by decide) ?_
                refine v_zret rfl rfl (by decide) ?_
                refine bk_inl ?_
                refine v_if_ne_t (t := 82) rfl (by decide) (by decide) ?_
                refine q_iload_n rfl rfl ?_
                refine v_bip rfl (by decide) ?_
                refine v_ic_eq_t (t := 96) rfl (by decide) (by omega) ?_
                refine q_aload_n rfl rfl ?_
                refine q_iconst rfl ?_
                refine q_aload_n rfl rfl ?_
                refine v_gi (z := 4) (v := (nx F e1 a)) rfl rfl rfl (by decide) rfl rfl (hz_281) ?_
                refine v_cv rfl rfl rfl rfl (by decide) ⟨⟨rfl, rfl⟩, by decide, rfl⟩ (Nat.le_of_ble_eq_true rfl) (Nat.le_of_ble_eq_true rfl) ?_
                refine q_aload_n rfl rfl ?_
                have kn_342 : Hid (c_271 41 5 = (-1)) := (hF_273 41 5 (fun h => absurd h.2 (ni rfl))).trans (hc_1)
                have kn_343 : Hid (c_278 41 5 = (-1)) := (hF_280 41 5 (fun h => absurd h.2 (ni rfl))).trans (hid kn_342)
                refine v_gi (z := 5) (v := (-1)) rfl rfl rfl (by decide) rfl rfl (hid kn_343) ?_
                refine q_iconst rfl ?_
                refine v_ic_eq_t (t := 9) rfl (by decide) (by decide) ?_
                refine q_aload_n rfl rfl ?_
                refine q_iload_n rfl rfl ?_
                refine v_pi (z := 5) rfl rfl rfl (by decide) rfl rfl rfl (by decide) ?_
                refine q_aload_n rfl rfl ?_
                refine q_iload_n rfl rfl ?_
                refine v_pi (z := 6) rfl rfl rfl (by decide) rfl rfl rfl (by decide) ?_
                refine q_vret rfl rfl ?_
                refine bk_inl ?_
                refine q_aload_n rfl rfl ?_
                refine v_cv rfl rfl rfl rfl (by decide) ⟨⟨rfl, rfl⟩, by decide, rfl⟩ (Nat.le_of_ble_eq_true rfl) (Nat.le_of_ble_eq_true rfl) ?_
                refine q_aload_n rfl rfl ?_
                refine v_gi (z := 5) (v := (nx F e1 a)) rfl rfl rfl (by decide) rfl rfl ((up_n (by decide)).trans (up_e rfl)) ?_
                refine q_iconst rfl ?_
                refine v_ic_ne_t (t := 12) rfl (by decide) (by omega) ?_
                refine q_iconst rfl ?_
                refine v_zret rfl rfl (by decide) ?_
                refine bk_inl ?_
                refine v_if_ne_f (t := 115) rfl (by decide) (by decide) ?_
                refine q_goto (t := 136) rfl (by decide) ?_
                refine Wp_ls [(0, .ref 41), (1, vi a1)] (lsub_cons rfl (lsub_cons rfl lsub_nil)) ?_
                have hI_344 := iw_41_5 (v := (nx F e1 a)) hI_279 ⟨by omega, by omega⟩
                have hI_345 := iw_41_6 (v := 3) hI_344 ⟨by decide, by decide⟩
                have h_346 : (up (up c_278 41 5 (nx F e1 a)) 41 6 3) 41 5 = (nx F e1 a) := ((up_n (by decide)).trans (up_e rfl))
                have h_347 : (up (up c_278 41 5 (nx F e1 a)) 41 6 3) 41 4 = (nx F e1 a) := ((up_n (by decide)).trans ((up_n (by decide)).trans (hz_281)))
                have h_348 : (up (up c_278 41 5 (nx F e1 a)) 41 6 3) 41 6 = 3 := (up_e rfl)
                have kn_349 : Hid (c_271 41 16 = jr) := (hF_273 41 16 (fun h => absurd h.2 (ni rfl))).trans (hr_jr)
                have kn_350 : Hid (c_278 41 16 = jr) := (hF_280 41 16 (fun h => absurd h.2 (ni rfl))).trans (hid kn_349)
                have h_351 : (up (up c_278 41 5 (nx F e1 a)) 41 6 3) 41 16 = jr := ((up_n (by decide)).trans ((up_n (by decide)).trans (hid kn_350)))
                have kn_352 : Hid (c_271 41 17 = st) := (hF_273 41 17 (fun h => absurd h.2 (ni rfl))).trans (hr_st)
                have kn_353 : Hid (c_278 41 17 = st) := (hF_280 41 17 (fun h => absurd h.2 (ni rfl))).trans (hid kn_352)
                have h_354 : (up (up c_278 41 5 (nx F e1 a)) 41 6 3) 41 17 = st := ((up_n (by decide)).trans ((up_n (by decide)).trans (hid kn_353)))
                have kn_355 : Hid (c_271 41 18 = si) := (hF_273 41 18 (fun h => absurd h.2 (ni rfl))).trans (hr_si)
                have kn_356 : Hid (c_278 41 18 = si) := (hF_280 41 18 (fun h => absurd h.2 (ni rfl))).trans (hid kn_355)
                have h_357 : (up (up c_278 41 5 (nx F e1 a)) 41 6 3) 41 18 = si := ((up_n (by decide)).trans ((up_n (by decide)).trans (hid kn_356)))
                have kn_358 : Hid (c_271 41 19 = du) := (hF_273 41 19 (fun h => absurd h.2 (ni rfl))).trans (hr_du)
                have kn_359 : Hid (c_278 41 19 = du) := (hF_280 41 19 (fun h => absurd h.2 (ni rfl))).trans (hid kn_358)
                have h_360 : (up (up c_278 41 5 (nx F e1 a)) 41 6 3) 41 19 = du := ((up_n (by decide)).trans ((up_n (by decide)).trans (hid kn_359)))
                exact K (up (up c_278 41 5 (nx F e1 a)) 41 6 3)  hI_345 (fun a j hm => (up_b (Decidable.or_iff_not_imp_left.mpr (fun h1 h2 => hm (Or.inr (Or.inr (Or.inl ⟨Decidable.not_not.mp h1, h2⟩)))))).trans ((up_b (Decidable.or_iff_not_imp_left.mpr (fun h1 h2 => hm (Or.inr (Or.inl ⟨Decidable.not_not.mp h1, h2⟩))))).trans ((hF_280 a j (fun h => hm (Or.inl h))).trans ((hF_273 a j (fun h => hm (Or.inl h))).trans (hFc a j (fun q => q.elim (fun h => hm (Or.inl h)) (fun q => q.elim (fun h => hm (Or.inr (Or.inl h))) (fun q => q.elim (fun h => hm (Or.inr (Or.inr (Or.inl h)))) (fun q => q.elim (fun h => hm (Or.inr (Or.inr (Or.inr (Or.inl h))))) (fun q => q.elim (fun h => hm (Or.inr (Or.inr (Or.inr (Or.inr (Or.inl h)))))) (fun q => q.elim (fun h => hm (Or.inr (Or.inr (Or.inr (Or.inr (Or.inr (Or.inl h))))))) (fun q => q.elim (fun h => hm (Or.inr (Or.inr (Or.inr (Or.inr (Or.inr (Or.inr (Or.inl h)))))))) (fun q => q.elim (fun h => hm (Or.inr (Or.inr (Or.inr (Or.inr (Or.inr (Or.inr (Or.inr (Or.inl h))))))))) (fun q => q.elim (fun h => hm (Or.inr (Or.inr (Or.inr (Or.inr (Or.inr (Or.inr (Or.inr (Or.inr (Or.inl h)))))))))) (fun h => hm (Or.inr (Or.inr (Or.inr (Or.inr (Or.inr (Or.inr (Or.inr (Or.inr (Or.inr h)))))))))))))))))))))))) (by unfold Rt; omega) (by omega)
        · refine v_ic_eq_f (t := 53) rfl (by decide) (by omega) ?_
          refine q_aload_n rfl rfl ?_
          refine q_iload rfl rfl ?_
          refine v_cv rfl rfl rfl (ck_p0 hA) (by omega) ⟨⟨rfl, rfl⟩, by decide, rfl⟩ (Nat.le_of_ble_eq_true rfl) (Nat.le_of_ble_eq_true rfl) ?_
          refine q_iload_n rfl rfl ?_
          by_cases h_361 : (wd8_0 F (nx F e1 a) (ln F e1 (nx F e1 a))) = 0
          · skip
            refine v_tsw_i (t := 28) 0 rfl (by omega) (by decide) rfl (by decide) ?_
            refine q_aload_n rfl rfl ?_
            have kn_362 : Hid (c_27 A 0 = jr) := (hF_29 A 0 (fun h => absurd h.1 (np0 hA rfl))).trans (hg_jr)
            have kn_363 : Hid (c_78 A 0 = jr) := (hF_80 A 0 (fun h => absurd h.1 (np0 hA rfl))).trans (hid kn_362)
            have kn_364 : Hid (c_103 A 0 = jr) := (hF_105 A 0 (fun q => q.elim (fun h => absurd h.1 (np0 hA rfl)) (fun q => q.elim (fun h => absurd h.1 (np0 hA rfl)) (fun h => absurd h.1 (np0 hA rfl))))).trans (hid kn_363)
            refine v_gi (z := 0) (v := jr) rfl rfl (ck_p0 hA) (by omega) rfl rfl (hid kn_364) ?_
            refine v_bip rfl (by decide) ?_
            by_cases h_365 : jr ≠ 6
            · refine v_ic_ne_t (t := 41) rfl (by decide) (by omega) ?_
              refine q_iconst rfl ?_
              refine v_zret rfl rfl (by decide) ?_
              refine bk_inl ?_
              refine v_if_eq_t (t := 59) rfl (by decide) (by decide) ?_
              refine q_aload_n rfl rfl ?_
              refine v_cv rfl rfl rfl rfl (by decide) ⟨⟨rfl, rfl⟩, by decide, rfl⟩ (Nat.le_of_ble_eq_true rfl) (Nat.le_of_ble_eq_true rfl) ?_
              refine q_aload_n rfl rfl ?_
              refine v_gi (z := 4) (v := 0) rfl rfl rfl (by decide) rfl rfl (hz_109) ?_
              refine v_if_ne_f (t := 11) rfl (by decide) (by decide) ?_
              refine q_iconst rfl ?_
              refine q_goto (t := 12) rfl (by decide) ?_
              refine v_zret rfl rfl (by decide) ?_
              refine bk_inl ?_
              refine v_if_eq_f (t := 73) rfl (by decide) (by decide) ?_
              refine q_aload_n rfl rfl ?_
              refine q_aload_n rfl rfl ?_
              refine q_iload rfl rfl ?_
              have hw_366 : (wd8_0 F (nx F e1 a) (ln F e1 (nx F e1 a))) = 0 := by omega
              rw [hw_366]
              have h_367 : c_103 A 0 = jr := (hid kn_364)
              have kn_368 : Hid (c_27 A 1 = st) := (hF_29 A 1 (fun h => absurd h.1 (np0 hA rfl))).trans (hg_st)
              have kn_369 : Hid (c_78 A 1 = st) := (hF_80 A 1 (fun h => absurd h.1 (np0 hA rfl))).trans (hid kn_368)
              have kn_370 : Hid (c_103 A 1 = st) := (hF_105 A 1 (fun q => q.elim (fun h => absurd h.1 (np0 hA rfl)) (fun q => q.elim (fun h => absurd h.1 (np0 hA rfl)) (fun h => absurd h.1 (np0 hA rfl))))).trans (hid kn_369)
              have h_371 : c_103 A 1 = st := (hid kn_370)
              have kn_372 : Hid (c_27 A 2 = si) := (hF_29 A 2 (fun h => absurd h.1 (np0 hA rfl))).trans (hg_si)
              have kn_373 : Hid (c_78 A 2 = si) := (hF_80 A 2 (fun h => absurd h.1 (np0 hA rfl))).trans (hid kn_372)
              have kn_374 : Hid (c_103 A 2 = si) := (hF_105 A 2 (fun q => q.elim (fun h => absurd h.1 (np0 hA rfl)) (fun q => q.elim (fun h => absurd h.1 (np0 hA rfl)) (fun h => absurd h.1 (np0 hA rfl))))).trans (hid kn_373)
              have h_375 : c_103 A 2 = si := (hid kn_374)
              refine v_cv rfl rfl rfl (ck_p0 hA) (by omega) ⟨⟨rfl, rfl⟩, by decide, rfl⟩ (Nat.le_of_ble_eq_true rfl) (Nat.le_of_ble_eq_true rfl) (fn_of (s_33 (a2 := 0) hI_104 hA (show 0 ≤ 0 ∧ 0 ≤ 100 from by omega) (by omega) (by omega) (by omega) (fun c_376 hI_377 hF_378 => ?_)))
              intro hG_379
              refine bk_inl ?_
              refine q_aload_n rfl rfl ?_
              refine q_ldc_s rfl rfl rfl (by decide) ?_
              have h_380 := ir_1_4 hI_377
              refine v_cv rfl rfl rfl rfl (by decide) ⟨⟨rfl, rfl⟩, by decide, rfl⟩ (Nat.le_of_ble_eq_true rfl) (Nat.le_of_ble_eq_true rfl) (fn_of (s_11 hI_377 (q := 9) (nt := 1) (by decide) (by decide) (by decide) (fun c_381 hI_382 hF_383 => ?_)))
              intro hG_384
              refine bk_inl ?_
              refine v_iinc (v := v + 1) rfl rfl (by decide) (by omega) ?_
              refine q_goto (t := 6) rfl (by decide) ?_
              have h_385 := ir_1_4 hI_382
              by_cases h_386 : c_381 1 4 = 0
              · skip
                refine Wp_ls [(0, .ref A), (1, .ref 1), (2, vi (v + 1))] (lsub_cons rfl (lsub_cons rfl (lsub_cons rfl lsub_nil))) ?_
                refine gh_stop (s_34_l (sc := sc) (d := dh + 18) (c := c_381) (Z := fun _ => True) hI_382 hA (fun _ _ _ => trivial) 124 c_381 (v + 1) hI_382 (fun a j hm => rfl) ⟨by omega, by omega⟩ (by omega)) (fun hG_387 => ?_)
                refine q_aload_n rfl rfl ?_
                refine v_cv rfl rfl rfl rfl (by decide) ⟨⟨rfl, rfl⟩, by decide, rfl⟩ (Nat.le_of_ble_eq_true rfl) (Nat.le_of_ble_eq_true rfl) ?_
                refine q_aload_n rfl rfl ?_
                refine v_gi (z := 5) (v := (-1)) rfl rfl rfl (by decide) rfl rfl (hc_1) ?_
                refine q_iconst rfl ?_
                refine v_ic_ne_f (t := 12) rfl (by decide) (by decide) ?_
                refine q_iconst rfl ?_
                refine q_goto (t := 13) rfl (by decide) ?_
                refine v_zret rfl rfl (by decide) ?_
                refine bk_inl ?_
                refine v_if_eq_f (t := 136) rfl (by decide) (by decide) ?_
                refine q_aload_n rfl rfl ?_
                refine v_cv rfl rfl rfl rfl (by decide) ⟨⟨rfl, rfl⟩, by decide, rfl⟩ (Nat.le_of_ble_eq_true rfl) (Nat.le_of_ble_eq_true rfl) ?_
                refine q_aload_n rfl rfl ?_
                have kn_388 : Hid (c2 41 3 = e1) := (hFc 41 3 (fun q => q.elim (fun h => absurd h.2 (ni rfl)) (fun q => q.elim (fun h => absurd h.2 (ni rfl)) (fun q => q.elim (fun h => absurd h.2 (ni rfl)) (fun q => q.elim (fun h => absurd h.2 (ni rfl)) (fun q => q.elim (fun h => absurd h.2 (ni rfl)) (fun q => q.elim (fun h => absurd h.2 (ni rfl)) (fun q => q.elim (fun h => absurd h.2 (ni rfl)) (fun q => q.elim (fun h => absurd h (nn rfl)) (fun q => q.elim (fun h => absurd h (nn rfl)) (fun h => absurd h (nn rfl)))))))))))).trans (hr_e1)
                have h_389 : -2147483648 ≤ (H (nx F e1 a)) ∧ (H (nx F e1 a)) ≤ 2147483647 := by rw [← hH (nx F e1 a)]; exact ir_43 hI (nx F e1 a)
                have h_390 := hU (nx F e1 a) (by omega) (by omega)
                have h_391 := hb_or (b := H) (e := e1) (r := (nx F e1 a))
                have h_392 := hb_bd (b := H) (e := e1) (r := (nx F e1 a)) (lo := -2147483648) (hi := 2147483647) ⟨by omega, by omega⟩ (by decide)
                refine v_cv rfl rfl rfl rfl (by decide) ⟨⟨rfl, rfl⟩, by decide, rfl⟩ (Nat.le_of_ble_eq_true rfl) (Nat.le_of_ble_eq_true rfl) (f_154 (e1 := e1) (a9 := a) (B := H) (r8 := (nx F e1 a)) (r := (hb H e1 (nx F e1 a))) hI2 ((hid kn_388)) ((hr_a)) (fun j => (hFc 43 j (fun q => q.elim (fun h => absurd h.1 (nn rfl)) (fun q => q.elim (fun h => absurd h.1 (nn rfl)) (fun q => q.elim (fun h => absurd h.1 (nn rfl)) (fun q => q.elim (fun h => absurd h.1 (nn rfl)) (fun q => q.elim (fun h => absurd h.1 (nn rfl)) (fun q => q.elim (fun h => absurd h.1 (nn rfl)) (fun q => q.elim (fun h => absurd h.1 (nn rfl)) (fun q => q.elim (fun h => absurd h (nn rfl)) (fun q => q.elim (fun h => absurd h (nn rfl)) (fun h => absurd h (nn rfl)))))))))))).trans (hH j)) ((nx_tr hU (by omega) (by omega)).trans (rfl)) rfl (fun c_393 hI_394 hF_395 h_396 => ?_))
                refine bk_inl ?_
                refine q_pop rfl rfl ?_
                refine q_aload_n rfl rfl ?_
                refine v_gi (z := 4) (v := (nx F e1 a)) rfl rfl rfl (by decide) rfl rfl (h_396) ?_
                refine q_aload_n rfl rfl ?_
                have kn_397 : Hid (c_393 41 3 = e1) := (hF_395 41 3 (fun h => absurd h.2 (ni rfl))).trans (hid kn_388)
                refine v_gi (z := 3) (v := e1) rfl rfl rfl (by decide) rfl rfl (hid kn_397) ?_
                refine v_ic_ge_f (t := 20) rfl (by decide) (by omega) ?_
                refine q_iconst rfl ?_
                refine q_goto (t := 21) rfl (by decide) ?_
                refine v_zret rfl rfl (by decide) ?_
                refine bk_inl ?_
                refine v_if_eq_f (t := 136) rfl (by decide) (by decide) ?_
                refine q_aload_n rfl rfl ?_
                have h_398 := wv_bd (b := F) (r := (nx F e1 a)) (l := (ln F e1 (nx F e1 a))) (fun j h1 h2 => ⟨(ln_in (e := e1) (a := (nx F e1 a)) h1 (by omega)).1, (ln_in (e := e1) (a := (nx F e1 a)) h1 (by omega)).2.1⟩)
                have h_399 := wr8_0 (b := F) (r := (nx F e1 a)) (l := (ln F e1 (nx F e1 a))) (by omega) (fun j h1 h2 => ⟨(ln_in (e := e1) (a := (nx F e1 a)) h1 (by omega)).1, (ln_in (e := e1) (a := (nx F e1 a)) h1 (by omega)).2.1⟩) (by omega)
                refine v_cv rfl rfl rfl rfl (by decide) ⟨⟨rfl, rfl⟩, by decide, rfl⟩ (Nat.le_of_ble_eq_true rfl) (Nat.le_of_ble_eq_true rfl) (f_157 (e1 := e1) (a9 := (nx F e1 a)) (B := H) (r8 := (nx F e1 a)) (L8 := (ln F e1 (nx F e1 a))) (W8 := (wv F (nx F e1 a) (ln F e1 (nx F e1 a)))) hI_394 ((hid kn_397)) ((h_396)) (fun j => ((hF_395 43 j (fun h => absurd h.1 (nn rfl))).trans (hFc 43 j (fun q => q.elim (fun h => absurd h.1 (nn rfl)) (fun q => q.elim (fun h => absurd h.1 (nn rfl)) (fun q => q.elim (fun h => absurd h.1 (nn rfl)) (fun q => q.elim (fun h => absurd h.1 (nn rfl)) (fun q => q.elim (fun h => absurd h.1 (nn rfl)) (fun q => q.elim (fun h => absurd h.1 (nn rfl)) (fun q => q.elim (fun h => absurd h.1 (nn rfl)) (fun q => q.elim (fun h => absurd h (nn rfl)) (fun q => q.elim (fun h => absurd h (nn rfl)) (fun h => absurd h (nn rfl))))))))))))).trans (hH j)) ((nx_tr hU (by omega) (by omega)).trans ((nx_z (by omega)))) ((ln_tr hU (by omega) (by omega)).trans (rfl)) ((wv_tr hU (by omega) (by omega) (fun j h1 h2 => ⟨(ln_in (e := e1) (a := (nx F e1 a)) h1 (by omega)).1, (ln_in (e := e1) (a := (nx F e1 a)) h1 (by omega)).2.1⟩)).trans (rfl)) (fun c_400 hI_401 hF_402 hz_403 => ?_))
                refine bk_inl ?_
                refine q_istore_n rfl (by decide) ?_
                refine q_iload_n rfl rfl ?_
                refine q_call rfl rfl rfl rfl ?_
                refine q_iload_n rfl rfl ?_
                refine q_ldc_s rfl rfl rfl (by decide) ?_
                refine q_call rfl rfl rfl rfl (s_158_16 ?_)
                refine bk_inl ?_
                refine v_ic_eq_t (t := 36) rfl (by decide) (by omega) ?_
                refine q_iconst rfl ?_
                refine q_goto (t := 41) rfl (by decide) ?_
                refine v_zret rfl rfl (by decide) ?_
                refine bk_inl ?_
                refine v_if_ne_t (t := 82) rfl (by decide) (by decide) ?_
                refine q_iload_n rfl rfl ?_
                refine v_bip rfl (by decide) ?_
                refine v_ic_eq_f (t := 96) rfl (by decide) (by omega) ?_
                refine q_aload_n rfl rfl ?_
                refine q_iload_n rfl rfl ?_
                refine v_cv rfl rfl rfl rfl (by decide) ⟨⟨rfl, rfl⟩, by decide, rfl⟩ (Nat.le_of_ble_eq_true rfl) (Nat.le_of_ble_eq_true rfl) ?_
                refine q_iload_n rfl rfl ?_
                refine q_ldc_s rfl rfl rfl (by decide) ?_
                refine q_call rfl rfl rfl rfl (s_158_16 ?_)
                refine bk_inl ?_
                refine v_ic_ne_f (t := 26) rfl (by decide) (by omega) ?_
                refine q_aload_n rfl rfl ?_
                have kn_404 : Hid (c_393 41 16 = jr) := (hF_395 41 16 (fun h => absurd h.2 (ni rfl))).trans (hr_jr)
                have kn_405 : Hid (c_400 41 16 = jr) := (hF_402 41 16 (fun h => absurd h.2 (ni rfl))).trans (hid kn_404)
                refine v_gi (z := 16) (v := jr) rfl rfl rfl (by decide) rfl rfl (hid kn_405) ?_
                refine v_bip rfl (by decide) ?_
                refine v_ic_ne_t (t := 22) rfl (by decide) (by omega) ?_
                refine q_iconst rfl ?_
                refine q_goto (t := 73) rfl (by decide) ?_
                refine v_zret rfl rfl (by decide) ?_
                refine bk_inl ?_
                refine v_if_eq_t (t := 105) rfl (by decide) (by decide) ?_
                refine q_aload_n rfl rfl ?_
                refine v_cv rfl rfl rfl rfl (by decide) ⟨⟨rfl, rfl⟩, by decide, rfl⟩ (Nat.le_of_ble_eq_true rfl) (Nat.le_of_ble_eq_true rfl) ?_
                refine q_aload_n rfl rfl ?_
                have kn_406 : Hid (c_393 41 5 = (-1)) := (hF_395 41 5 (fun h => absurd h.2 (ni rfl))).trans (hc_1)
                have kn_407 : Hid (c_400 41 5 = (-1)) := (hF_402 41 5 (fun h => absurd h.2 (ni rfl))).trans (hid kn_406)
                refine v_gi (z := 5) (v := (-1)) rfl rfl rfl (by decide) rfl rfl (hid kn_407) ?_
                refine q_iconst rfl ?_
                refine v_ic_ne_f (t := 12) rfl (by decide) (by decide) ?_
                refine q_iconst rfl ?_
                refine q_goto (t := 13) rfl (by decide) ?_
                refine v_zret rfl rfl (by decide) ?_
                refine bk_inl ?_
                refine v_if_ne_t (t := 115) rfl (by decide) (by decide) ?_
                refine q_aload_n rfl rfl ?_
                have kn_408 : Hid (c_400 41 3 = e1) := (hF_402 41 3 (fun h => absurd h.2 (ni rfl))).trans (hid kn_397)
                refine v_cv rfl rfl rfl rfl (by decide) ⟨⟨rfl, rfl⟩, by decide, rfl⟩ (Nat.le_of_ble_eq_true rfl) (Nat.le_of_ble_eq_true rfl) (f_159 (e1 := e1) (a9 := (nx F e1 a)) (B := H) (L8 := (ln F e1 (nx F e1 a))) hI_401 ((hid kn_408)) ((hz_403)) (fun j => ((hF_402 43 j (fun h => absurd h.1 (nn rfl))).trans ((hF_395 43 j (fun h => absurd h.1 (nn rfl))).trans (hFc 43 j (fun q => q.elim (fun h => absurd h.1 (nn rfl)) (fun q => q.elim (fun h => absurd h.1 (nn rfl)) (fun q => q.elim (fun h => absurd h.1 (nn rfl)) (fun q => q.elim (fun h => absurd h.1 (nn rfl)) (fun q => q.elim (fun h => absurd h.1 (nn rfl)) (fun q => q.elim (fun h => absurd h.1 (nn rfl)) (fun q => q.elim (fun h => absurd h.1 (nn rfl)) (fun q => q.elim (fun h => absurd h (nn rfl)) (fun q => q.elim (fun h => absurd h (nn rfl)) (fun h => absurd h (nn rfl)))))))))))))).trans (hH j)) ((ln_tr hU (by omega) (by omega)).trans (rfl)) (fun c_409 hI_410 hF_411 hz_412 => ?_))
                refine bk_inl ?_
                refine q_aload_n rfl rfl ?_
                refine q_iload_n rfl rfl ?_
                have hw_413 : (wv F (nx F e1 a) (ln F e1 (nx F e1 a))) = 10290 := by omega
                rw [hw_413]
                have kn_414 : Hid (c_103 1 1 = e1) := (hF_105 1 1 (fun q => q.elim (fun h => absurd h.2 (ni rfl)) (fun q => q.elim (fun h => absurd h.2 (ni rfl)) (fun h => absurd h.2 (ni rfl))))).trans (hid kn_82)
                have kn_415 : Hid (c_409 41 3 = e1) := (hF_411 41 3 (fun h => absurd h.2 (ni rfl))).trans (hid kn_408)
                have kn_416 : Hid (c_409 41 16 = jr) := (hF_411 41 16 (fun h => absurd h.2 (ni rfl))).trans (hid kn_405)
                have kn_417 : Hid (c_393 41 17 = st) := (hF_395 41 17 (fun h => absurd h.2 (ni rfl))).trans (hr_st)
                have kn_418 : Hid (c_400 41 17 = st) := (hF_402 41 17 (fun h => absurd h.2 (ni rfl))).trans (hid kn_417)
                have kn_419 : Hid (c_409 41 17 = st) := (hF_411 41 17 (fun h => absurd h.2 (ni rfl))).trans (hid kn_418)
                have kn_420 : Hid (c_393 41 18 = si) := (hF_395 41 18 (fun h => absurd h.2 (ni rfl))).trans (hr_si)
                have kn_421 : Hid (c_400 41 18 = si) := (hF_402 41 18 (fun h => absurd h.2 (ni rfl))).trans (hid kn_420)
                have kn_422 : Hid (c_409 41 18 = si) := (hF_411 41 18 (fun h => absurd h.2 (ni rfl))).trans (hid kn_421)
                have kn_423 : Hid (c_27 A 3 = du) := (hF_29 A 3 (fun h => absurd h.1 (np0 hA rfl))).trans (hg_du)
                have kn_424 : Hid (c_78 A 3 = du) := (hF_80 A 3 (fun h => absurd h.1 (np0 hA rfl))).trans (hid kn_423)
                have kn_425 : Hid (c_103 A 3 = du) := (hF_105 A 3 (fun q => q.elim (fun h => absurd h.1 (np0 hA rfl)) (fun q => q.elim (fun h => absurd h.1 (np0 hA rfl)) (fun h => absurd h.1 (np0 hA rfl))))).trans (hid kn_424)
                have kn_426 : Hid (c_393 41 19 = du) := (hF_395 41 19 (fun h => absurd h.2 (ni rfl))).trans (hr_du)
                have kn_427 : Hid (c_400 41 19 = du) := (hF_402 41 19 (fun h => absurd h.2 (ni rfl))).trans (hid kn_426)
                have kn_428 : Hid (c_409 41 19 = du) := (hF_411 41 19 (fun h => absurd h.2 (ni rfl))).trans (hid kn_427)
                have h_429 : c_103 1 4 = 0 := (hz_109)
                have h_430 : c_103 1 2 = (ln F e1 (nx F e1 a)) := (hz_108)
                have h_431 : c_103 1 5 = (-1) := (hz_110)
                have kn_432 : Hid (c_409 41 5 = (-1)) := (hF_411 41 5 (fun h => absurd h.2 (ni rfl))).trans (hid kn_407)
                have h_433 : c_409 41 5 = (-1) := (hid kn_432)
                have h_434 : c_409 41 4 = (ln F e1 (nx F e1 a)) := (hz_412)
                have h_435 := ir_41_6 hI2
                have kn_436 : Hid (c_393 41 6 = c2 41 6) := hF_395 41 6 (fun h => absurd h.2 (ni rfl))
                have kn_437 : Hid (c_400 41 6 = c2 41 6) := (hF_402 41 6 (fun h => absurd h.2 (ni rfl))).trans (hid kn_436)
                have kn_438 : Hid (c_409 41 6 = c2 41 6) := (hF_411 41 6 (fun h => absurd h.2 (ni rfl))).trans (hid kn_437)
                have h_439 : c_409 41 6 = c2 41 6 := (hid kn_438)
                refine v_cv rfl rfl rfl rfl (by decide) ⟨⟨rfl, rfl⟩, by decide, rfl⟩ (Nat.le_of_ble_eq_true rfl) (Nat.le_of_ble_eq_true rfl) (L_33_0 (m := c_103) (e1 := e1) (jr := jr) (st := st) (si := si) (du := du) (F := F) (H := H) hI_410 hI_104 hI_377 hA (by omega) ((hid kn_414)) ((hid kn_415)) ((hid kn_364)) ((hid kn_416)) ((hid kn_370)) ((hid kn_419)) ((hid kn_374)) ((hid kn_422)) ((hid kn_425)) ((hid kn_428)) (fun j => ((hF_105 2 j (fun q => q.elim (fun h => absurd h.1 (nn rfl)) (fun q => q.elim (fun h => absurd h.1 (nn rfl)) (fun h => absurd h.1 (nn rfl))))).trans ((hF_80 2 j (fun h => absurd h.1 (nn rfl))).trans ((hF_29 2 j (fun h => absurd h.1 (nn rfl))).trans (hFm 2 j (fun q => q.elim (fun h => absurd h.1 (nn rfl)) (fun q => q.elim (fun h => absurd h.1 (nn rfl)) (fun q => q.elim (fun h => absurd h.1 (nn rfl)) (fun q => q.elim (fun h => absurd h.1 (pn0 hA rfl)) (fun q => q.elim (fun h => absurd h.1 (pn0 hA rfl)) (fun q => q.elim (fun h => absurd h.1 (pn0 hA rfl)) (fun q => q.elim (fun h => absurd h.1 (pn0 hA rfl)) (fun q => q.elim (fun h => absurd h (pn hA rfl rfl)) (fun q => q.elim (fun h => absurd h (pn hA rfl rfl)) (fun q => q.elim (fun h => absurd h (pn hA rfl rfl)) (fun q => q.elim (fun h => absurd h.1 (pn0 hA rfl)) (fun q => q.elim (fun h => absurd h.1 (pn0 hA rfl)) (fun q => q.elim (fun h => absurd h (pn hA rfl rfl)) (fun h => absurd h.1 (pn hA rfl rfl))))))))))))))))))).trans (hF j)) (fun j => ((hF_411 43 j (fun h => absurd h.1 (nn rfl))).trans ((hF_402 43 j (fun h => absurd h.1 (nn rfl))).trans ((hF_395 43 j (fun h => absurd h.1 (nn rfl))).trans (hFc 43 j (fun q => q.elim (fun h => absurd h.1 (nn rfl)) (fun q => q.elim (fun h => absurd h.1 (nn rfl)) (fun q => q.elim (fun h => absurd h.1 (nn rfl)) (fun q => q.elim (fun h => absurd h.1 (nn rfl)) (fun q => q.elim (fun h => absurd h.1 (nn rfl)) (fun q => q.elim (fun h => absurd h.1 (nn rfl)) (fun q => q.elim (fun h => absurd h.1 (nn rfl)) (fun q => q.elim (fun h => absurd h (nn rfl)) (fun q => q.elim (fun h => absurd h (nn rfl)) (fun h => absurd h (nn rfl))))))))))))))).trans (hH j)) hU (by unfold Rt; omega) hG_379 (fun c_440 hI_441 hF_442 hR_444 h_445 h_446 h_447 h_448 => ?_))
                refine bk_inl ?_
                have h_449 := ir_41_16 hI_441
                have h_450 := ir_p0_0 hI_377 hA
                have h_451 := ir_41_17 hI_441
                have h_452 := ir_p0_1 hI_377 hA
                have h_453 := ir_41_18 hI_441
                have h_454 := ir_p0_2 hI_377 hA
                have h_455 := ir_41_19 hI_441
                have h_456 := ir_p0_3 hI_377 hA
                refine q_aload_n rfl rfl ?_
                refine v_bip rfl (by decide) ?_
                have kn_457 : Hid (c_376 1 1 = e1) := (hF_378 1 1 (fun q => q.elim (fun h => absurd h.2 (ni rfl)) (fun q => q.elim (fun h => absurd h.2 (ni rfl)) (fun q => q.elim (fun h => absurd h.2 (ni rfl)) (fun q => q.elim (fun h => absurd h.1 (pn0 hA rfl)) (fun q => q.elim (fun h => absurd h.1 (pn0 hA rfl)) (fun q => q.elim (fun h => absurd h.1 (pn0 hA rfl)) (fun q => q.elim (fun h => absurd h.1 (pn0 hA rfl)) (fun q => q.elim (fun h => absurd h (pn hA rfl rfl)) (fun q => q.elim (fun h => absurd h (pn hA rfl rfl)) (fun h => absurd h (pn hA rfl rfl)))))))))))).trans (hid kn_414)
                have kn_458 : Hid (c_440 41 3 = e1) := (hF_442 41 3 (fun q => q.elim (fun h => absurd h.2 (ni rfl)) (fun q => q.elim (fun h => absurd h.2 (ni rfl)) (fun q => q.elim (fun h => absurd h.2 (ni rfl)) (fun q => q.elim (fun h => absurd h.2 (ni rfl)) (fun q => q.elim (fun h => absurd h.2 (ni rfl)) (fun q => q.elim (fun h => absurd h.2 (ni rfl)) (fun q => q.elim (fun h => absurd h.2 (ni rfl)) (fun q => q.elim (fun h => absurd h (nn rfl)) (fun q => q.elim (fun h => absurd h (nn rfl)) (fun h => absurd h (nn rfl)))))))))))).trans (hid kn_415)
                have h_459 := ir_1_2 hI_377
                refine v_cv rfl rfl rfl rfl (by decide) ⟨⟨rfl, rfl⟩, by decide, rfl⟩ (Nat.le_of_ble_eq_true rfl) (Nat.le_of_ble_eq_true rfl) (L_11_9 (m := c_376) (e1 := e1) (a9 := c_376 1 2) (F := F) (H := H) hI_441 hI_377 hI_382 ((hid kn_457)) ((hid kn_458)) (rfl) (fun j => ((hF_378 2 j (fun q => q.elim (fun h => absurd h.1 (nn rfl)) (fun q => q.elim (fun h => absurd h.1 (nn rfl)) (fun q => q.elim (fun h => absurd h.1 (nn rfl)) (fun q => q.elim (fun h => absurd h.1 (pn0 hA rfl)) (fun q => q.elim (fun h => absurd h.1 (pn0 hA rfl)) (fun q => q.elim (fun h => absurd h.1 (pn0 hA rfl)) (fun q => q.elim (fun h => absurd h.1 (pn0 hA rfl)) (fun q => q.elim (fun h => absurd h (pn hA rfl rfl)) (fun q => q.elim (fun h => absurd h (pn hA rfl rfl)) (fun h => absurd h (pn hA rfl rfl)))))))))))).trans ((hF_105 2 j (fun q => q.elim (fun h => absurd h.1 (nn rfl)) (fun q => q.elim (fun h => absurd h.1 (nn rfl)) (fun h => absurd h.1 (nn rfl))))).trans ((hF_80 2 j (fun h => absurd h.1 (nn rfl))).trans ((hF_29 2 j (fun h => absurd h.1 (nn rfl))).trans (hFm 2 j (fun q => q.elim (fun h => absurd h.1 (nn rfl)) (fun q => q.elim (fun h => absurd h.1 (nn rfl)) (fun q => q.elim (fun h => absurd h.1 (nn rfl)) (fun q => q.elim (fun h => absurd h.1 (pn0 hA rfl)) (fun q => q.elim (fun h => absurd h.1 (pn0 hA rfl)) (fun q => q.elim (fun h => absurd h.1 (pn0 hA rfl)) (fun q => q.elim (fun h => absurd h.1 (pn0 hA rfl)) (fun q => q.elim (fun h => absurd h (pn hA rfl rfl)) (fun q => q.elim (fun h => absurd h (pn hA rfl rfl)) (fun q => q.elim (fun h => absurd h (pn hA rfl rfl)) (fun q => q.elim (fun h => absurd h.1 (pn0 hA rfl)) (fun q => q.elim (fun h => absurd h.1 (pn0 hA rfl)) (fun q => q.elim (fun h => absurd h (pn hA rfl rfl)) (fun h => absurd h.1 (pn hA rfl rfl)))))))))))))))))))).trans (hF j)) (fun j => ((hF_442 43 j (fun q => q.elim (fun h => absurd h.1 (nn rfl)) (fun q => q.elim (fun h => absurd h.1 (nn rfl)) (fun q => q.elim (fun h => absurd h.1 (nn rfl)) (fun q => q.elim (fun h => absurd h.1 (nn rfl)) (fun q => q.elim (fun h => absurd h.1 (nn rfl)) (fun q => q.elim (fun h => absurd h.1 (nn rfl)) (fun q => q.elim (fun h => absurd h.1 (nn rfl)) (fun q => q.elim (fun h => absurd h (nn rfl)) (fun q => q.elim (fun h => absurd h (nn rfl)) (fun h => absurd h (nn rfl)))))))))))).trans ((hF_411 43 j (fun h => absurd h.1 (nn rfl))).trans ((hF_402 43 j (fun h => absurd h.1 (nn rfl))).trans ((hF_395 43 j (fun h => absurd h.1 (nn rfl))).trans (hFc 43 j (fun q => q.elim (fun h => absurd h.1 (nn rfl)) (fun q => q.elim (fun h => absurd h.1 (nn rfl)) (fun q => q.elim (fun h => absurd h.1 (nn rfl)) (fun q => q.elim (fun h => absurd h.1 (nn rfl)) (fun q => q.elim (fun h => absurd h.1 (nn rfl)) (fun q => q.elim (fun h => absurd h.1 (nn rfl)) (fun q => q.elim (fun h => absurd h.1 (nn rfl)) (fun q => q.elim (fun h => absurd h (nn rfl)) (fun q => q.elim (fun h => absurd h (nn rfl)) (fun h => absurd h (nn rfl)))))))))))))))).trans (hH j)) hU hR_444 hG_384 (fun c_460 hI_461 hF_462 hR_464 h_465 => ?_))
                refine bk_inl ?_
                have h_466 := ir_1_2 hI_382
                refine v_iinc (v := v + 1) rfl rfl (by decide) (by omega) ?_
                refine q_goto (t := 44) rfl (by decide) ?_
                refine Wp_ls [(0, .ref 41), (1, vi a1), (2, vi (v + 1))] (lsub_cons rfl (lsub_cons rfl (lsub_cons rfl lsub_nil))) ?_
                have h_467 := ir_41_4 hI_461
                have h_468 := ir_1_5 hI_382
                have h_469 := ir_41_5 hI_461
                have h_470 := ir_41_6 hI_461
                have h_471 := rt_ok hR_464 (by omega)
                have hro_hR_464 := rt_ok hR_464 (by omega)
                have kn_472 : Hid (c_381 A 0 = c_376 A 0) := hF_383 A 0 (fun q => q.elim (fun h => absurd h.1 (np0 hA rfl)) (fun q => q.elim (fun h => absurd h.1 (np0 hA rfl)) (fun h => absurd h.1 (np0 hA rfl))))
                have kn_473 : Hid (c_460 41 16 = c_440 41 16) := hF_462 41 16 (fun q => q.elim (fun h => absurd h.2 (ni rfl)) (fun q => q.elim (fun h => absurd h.2 (ni rfl)) (fun h => absurd h.2 (ni rfl))))
                have kn_474 : Hid (c_381 A 1 = c_376 A 1) := hF_383 A 1 (fun q => q.elim (fun h => absurd h.1 (np0 hA rfl)) (fun q => q.elim (fun h => absurd h.1 (np0 hA rfl)) (fun h => absurd h.1 (np0 hA rfl))))
                have kn_475 : Hid (c_460 41 17 = c_440 41 17) := hF_462 41 17 (fun q => q.elim (fun h => absurd h.2 (ni rfl)) (fun q => q.elim (fun h => absurd h.2 (ni rfl)) (fun h => absurd h.2 (ni rfl))))
                have kn_476 : Hid (c_381 A 2 = c_376 A 2) := hF_383 A 2 (fun q => q.elim (fun h => absurd h.1 (np0 hA rfl)) (fun q => q.elim (fun h => absurd h.1 (np0 hA rfl)) (fun h => absurd h.1 (np0 hA rfl))))
                have kn_477 : Hid (c_460 41 18 = c_440 41 18) := hF_462 41 18 (fun q => q.elim (fun h => absurd h.2 (ni rfl)) (fun q => q.elim (fun h => absurd h.2 (ni rfl)) (fun h => absurd h.2 (ni rfl))))
                have kn_478 : Hid (c_381 A 3 = c_376 A 3) := hF_383 A 3 (fun q => q.elim (fun h => absurd h.1 (np0 hA rfl)) (fun q => q.elim (fun h => absurd h.1 (np0 hA rfl)) (fun h => absurd h.1 (np0 hA rfl))))
                have kn_479 : Hid (c_460 41 19 = c_440 41 19) := hF_462 41 19 (fun q => q.elim (fun h => absurd h.2 (ni rfl)) (fun q => q.elim (fun h => absurd h.2 (ni rfl)) (fun h => absurd h.2 (ni rfl))))
                exact ih c_460 c_381 (v + 1) (c_381 1 2) (c_376 A 0) (c_376 A 1) (c_376 A 2) (c_376 A 3) hI_461 (fun a j hm => (hF_462 a j (fun q => q.elim (fun h => hm (Or.inl h)) (fun q => q.elim (fun h => hm (Or.inr (Or.inl h))) (fun h => hm (Or.inr (Or.inr (Or.inl h))))))).trans ((hF_442 a j (fun q => q.elim (fun h => hm (Or.inl h)) (fun q => q.elim (fun h => hm (Or.inr (Or.inl h))) (fun q => q.elim (fun h => hm (Or.inr (Or.inr (Or.inl h)))) (fun q => q.elim (fun h => hm (Or.inr (Or.inr (Or.inr (Or.inl h))))) (fun q => q.elim (fun h => hm (Or.inr (Or.inr (Or.inr (Or.inr (Or.inl h)))))) (fun q => q.elim (fun h => hm (Or.inr (Or.inr (Or.inr (Or.inr (Or.inr (Or.inl h))))))) (fun q => q.elim (fun h => hm (Or.inr (Or.inr (Or.inr (Or.inr (Or.inr (Or.inr (Or.inl h)))))))) (fun q => q.elim (fun h => hm (Or.inr (Or.inr (Or.inr (Or.inr (Or.inr (Or.inr (Or.inr (Or.inl h))))))))) (fun q => q.elim (fun h => hm (Or.inr (Or.inr (Or.inr (Or.inr (Or.inr (Or.inr (Or.inr (Or.inr (Or.inl h)))))))))) (fun h => hm (Or.inr (Or.inr (Or.inr (Or.inr (Or.inr (Or.inr (Or.inr (Or.inr (Or.inr h)))))))))))))))))))).trans ((hF_411 a j (fun h => hm (Or.inl h))).trans ((hF_402 a j (fun h => hm (Or.inl h))).trans ((hF_395 a j (fun h => hm (Or.inl h))).trans (hFc a j (fun q => q.elim (fun h => hm (Or.inl h)) (fun q => q.elim (fun h => hm (Or.inr (Or.inl h))) (fun q => q.elim (fun h => hm (Or.inr (Or.inr (Or.inl h)))) (fun q => q.elim (fun h => hm (Or.inr (Or.inr (Or.inr (Or.inl h))))) (fun q => q.elim (fun h => hm (Or.inr (Or.inr (Or.inr (Or.inr (Or.inl h)))))) (fun q => q.elim (fun h => hm (Or.inr (Or.inr (Or.inr (Or.inr (Or.inr (Or.inl h))))))) (fun q => q.elim (fun h => hm (Or.inr (Or.inr (Or.inr (Or.inr (Or.inr (Or.inr (Or.inl h)))))))) (fun q => q.elim (fun h => hm (Or.inr (Or.inr (Or.inr (Or.inr (Or.inr (Or.inr (Or.inr (Or.inl h))))))))) (fun q => q.elim (fun h => hm (Or.inr (Or.inr (Or.inr (Or.inr (Or.inr (Or.inr (Or.inr (Or.inr (Or.inl h)))))))))) (fun h => hm (Or.inr (Or.inr (Or.inr (Or.inr (Or.inr (Or.inr (Or.inr (Or.inr (Or.inr h))))))))))))))))))))))))) hI_382 (fun a j hm => (hF_383 a j (fun q => q.elim (fun h => hm (Or.inl h)) (fun q => q.elim (fun h => hm (Or.inr (Or.inl h))) (fun h => hm (Or.inr (Or.inr (Or.inl h))))))).trans ((hF_378 a j (fun q => q.elim (fun h => hm (Or.inl h)) (fun q => q.elim (fun h => hm (Or.inr (Or.inl h))) (fun q => q.elim (fun h => hm (Or.inr (Or.inr (Or.inl h)))) (fun q => q.elim (fun h => hm (Or.inr (Or.inr (Or.inr (Or.inl h))))) (fun q => q.elim (fun h => hm (Or.inr (Or.inr (Or.inr (Or.inr (Or.inl h)))))) (fun q => q.elim (fun h => hm (Or.inr (Or.inr (Or.inr (Or.inr (Or.inr (Or.inl h))))))) (fun q => q.elim (fun h => hm (Or.inr (Or.inr (Or.inr (Or.inr (Or.inr (Or.inr (Or.inl h)))))))) (fun q => q.elim (fun h => hm (Or.inr (Or.inr (Or.inr (Or.inr (Or.inr (Or.inr (Or.inr (Or.inl h))))))))) (fun q => q.elim (fun h => hm (Or.inr (Or.inr (Or.inr (Or.inr (Or.inr (Or.inr (Or.inr (Or.inr (Or.inl h)))))))))) (fun h => hm (Or.inr (Or.inr (Or.inr (Or.inr (Or.inr (Or.inr (Or.inr (Or.inr (Or.inr (Or.inl h))))))))))))))))))))).trans ((hF_105 a j (fun q => q.elim (fun h => hm (Or.inl h)) (fun q => q.elim (fun h => hm (Or.inr (Or.inl h))) (fun h => hm (Or.inr (Or.inr (Or.inl h))))))).trans ((hF_80 a j (fun h => hm (Or.inl h))).trans ((hF_29 a j (fun h => hm (Or.inl h))).trans (hFm a j (fun q => q.elim (fun h => hm (Or.inl h)) (fun q => q.elim (fun h => hm (Or.inr (Or.inl h))) (fun q => q.elim (fun h => hm (Or.inr (Or.inr (Or.inl h)))) (fun q => q.elim (fun h => hm (Or.inr (Or.inr (Or.inr (Or.inl h))))) (fun q => q.elim (fun h => hm (Or.inr (Or.inr (Or.inr (Or.inr (Or.inl h)))))) (fun q => q.elim (fun h => hm (Or.inr (Or.inr (Or.inr (Or.inr (Or.inr (Or.inl h))))))) (fun q => q.elim (fun h => hm (Or.inr (Or.inr (Or.inr (Or.inr (Or.inr (Or.inr (Or.inl h)))))))) (fun q => q.elim (fun h => hm (Or.inr (Or.inr (Or.inr (Or.inr (Or.inr (Or.inr (Or.inr (Or.inl h))))))))) (fun q => q.elim (fun h => hm (Or.inr (Or.inr (Or.inr (Or.inr (Or.inr (Or.inr (Or.inr (Or.inr (Or.inl h)))))))))) (fun q => q.elim (fun h => hm (Or.inr (Or.inr (Or.inr (Or.inr (Or.inr (Or.inr (Or.inr (Or.inr (Or.inr (Or.inl h))))))))))) (fun q => q.elim (fun h => hm (Or.inr (Or.inr (Or.inr (Or.inr (Or.inr (Or.inr (Or.inr (Or.inr (Or.inr (Or.inr (Or.inl h)))))))))))) (fun q => q.elim (fun h => hm (Or.inr (Or.inr (Or.inr (Or.inr (Or.inr (Or.inr (Or.inr (Or.inr (Or.inr (Or.inr (Or.inr (Or.inl h))))))))))))) (fun q => q.elim (fun h => hm (Or.inr (Or.inr (Or.inr (Or.inr (Or.inr (Or.inr (Or.inr (Or.inr (Or.inr (Or.inr (Or.inr (Or.inr (Or.inl h)))))))))))))) (fun h => hm (Or.inr (Or.inr (Or.inr (Or.inr (Or.inr (Or.inr (Or.inr (Or.inr (Or.inr (Or.inr (Or.inr (Or.inr (Or.inr h))))))))))))))))))))))))))))))))) ⟨by omega, by omega⟩ ⟨by omega, by omega⟩ ⟨by omega, by omega⟩ ⟨by omega, by omega⟩ ⟨by omega, by omega⟩ ⟨by omega, by omega⟩ (rfl) (hro_hR_464.2.2.1) ((hid kn_472)) ((show _ = c_440 41 16 from (hid kn_473)).trans (by omega)) ((hid kn_474)) ((show _ = c_440 41 17 from (hid kn_475)).trans (by omega)) ((hid kn_476)) ((show _ = c_440 41 18 from (hid kn_477)).trans (by omega)) ((hid kn_478)) ((show _ = c_440 41 19 from (hid kn_479)).trans (by omega)) ((show _ = c_381 1 4 from rfl).trans (by omega)) (hro_hR_464.2.1) ((show _ = c_381 1 5 from rfl).trans (by omega)) hG_387 (by omega)
              · skip
                refine q_iload_n rfl rfl ?_
                refine v_bip rfl (by decide) ?_
                refine v_ic_gt_f (t := 85) rfl (by decide) (by omega) ?_
                refine q_aload_n rfl rfl ?_
                refine v_cv rfl rfl rfl rfl (by decide) ⟨⟨rfl, rfl⟩, by decide, rfl⟩ (Nat.le_of_ble_eq_true rfl) (Nat.le_of_ble_eq_true rfl) ?_
                refine q_aload_n rfl rfl ?_
                refine v_cv rfl rfl rfl rfl (by decide) ⟨⟨rfl, rfl⟩, by decide, rfl⟩ (Nat.le_of_ble_eq_true rfl) (Nat.le_of_ble_eq_true rfl) ?_
                refine q_aload_n rfl rfl ?_
                refine v_gi (z := 4) (v := c_381 1 4) rfl rfl rfl (by decide) rfl rfl rfl ?_
                refine v_if_ne_t (t := 11) rfl (by decide) (by omega) ?_
                refine q_iconst rfl ?_
                refine v_zret rfl rfl (by decide) ?_
                refine bk_inl ?_
                refine v_if_eq_t (t := 22) rfl (by decide) (by decide) ?_
                refine q_iconst rfl ?_
                refine v_zret rfl rfl (by decide) ?_
                refine bk_inl ?_
                refine v_if_eq_t (t := 85) rfl (by decide) (by decide) ?_
                refine q_vret rfl rfl ?_
                intro hE_480
                have hW : Wd P Q P P c_381 = Wd P Q P P m9 := (Prod.mk.inj (Prod.mk.inj hE_480).2).1
                have h_481 := ir_1_4 hJ9
                have h_482 : m9 1 4 = c_381 1 4 := wd_fv (z := 4) 4 rfl hW rfl rfl rfl rfl (by decide) rfl ⟨by omega, by omega⟩ ⟨by omega, by omega⟩
                have h_483 := ir_1_2 hI_382
                have h_484 := ir_1_2 hJ9
                have h_485 : m9 1 2 = c_381 1 2 := wd_fv (z := 2) 2 rfl hW rfl rfl rfl rfl (by decide) rfl ⟨by omega, by omega⟩ ⟨by omega, by omega⟩
                have h_486 := ir_1_5 hI_382
                have h_487 := ir_1_5 hJ9
                have h_488 : m9 1 5 = c_381 1 5 := wd_fv (z := 5) 5 rfl hW rfl rfl rfl rfl (by decide) rfl ⟨by omega, by omega⟩ ⟨by omega, by omega⟩
                have h_489 := ir_p0_0 hI_377 hA
                have kn_490 : Hid (c_381 A 0 = c_376 A 0) := hF_383 A 0 (fun q => q.elim (fun h => absurd h.1 (np0 hA rfl)) (fun q => q.elim (fun h => absurd h.1 (np0 hA rfl)) (fun h => absurd h.1 (np0 hA rfl))))
                have h_491 := ir_p0_0 hJ9 hA
                have h_492 : m9 A 0 = c_376 A 0 := wd_fv (z := 0) 0 rfl hW (ck_p0 hA) (ck_p0 hA) rfl rfl (by omega) (hid kn_490) ⟨by omega, by omega⟩ ⟨by omega, by omega⟩
                have h_493 := ir_p0_1 hI_377 hA
                have kn_494 : Hid (c_381 A 1 = c_376 A 1) := hF_383 A 1 (fun q => q.elim (fun h => absurd h.1 (np0 hA rfl)) (fun q => q.elim (fun h => absurd h.1 (np0 hA rfl)) (fun h => absurd h.1 (np0 hA rfl))))
                have h_495 := ir_p0_1 hJ9 hA
                have h_496 : m9 A 1 = c_376 A 1 := wd_fv (z := 1) 1 rfl hW (ck_p0 hA) (ck_p0 hA) rfl rfl (by omega) (hid kn_494) ⟨by omega, by omega⟩ ⟨by omega, by omega⟩
                have h_497 := ir_p0_2 hI_377 hA
                have kn_498 : Hid (c_381 A 2 = c_376 A 2) := hF_383 A 2 (fun q => q.elim (fun h => absurd h.1 (np0 hA rfl)) (fun q => q.elim (fun h => absurd h.1 (np0 hA rfl)) (fun h => absurd h.1 (np0 hA rfl))))
                have h_499 := ir_p0_2 hJ9 hA
                have h_500 : m9 A 2 = c_376 A 2 := wd_fv (z := 2) 2 rfl hW (ck_p0 hA) (ck_p0 hA) rfl rfl (by omega) (hid kn_498) ⟨by omega, by omega⟩ ⟨by omega, by omega⟩
                have h_501 := ir_p0_3 hI_377 hA
                have kn_502 : Hid (c_381 A 3 = c_376 A 3) := hF_383 A 3 (fun q => q.elim (fun h => absurd h.1 (np0 hA rfl)) (fun q => q.elim (fun h => absurd h.1 (np0 hA rfl)) (fun h => absurd h.1 (np0 hA rfl))))
                have h_503 := ir_p0_3 hJ9 hA
                have h_504 : m9 A 3 = c_376 A 3 := wd_fv (z := 3) 3 rfl hW (ck_p0 hA) (ck_p0 hA) rfl rfl (by omega) (hid kn_502) ⟨by omega, by omega⟩ ⟨by omega, by omega⟩
                refine q_aload_n rfl rfl ?_
                refine v_cv rfl rfl rfl rfl (by decide) ⟨⟨rfl, rfl⟩, by decide, rfl⟩ (Nat.le_of_ble_eq_true rfl) (Nat.le_of_ble_eq_true rfl) ?_
                refine q_aload_n rfl rfl ?_
                refine v_gi (z := 5) (v := (-1)) rfl rfl rfl (by decide) rfl rfl (hc_1) ?_
                refine q_iconst rfl ?_
                refine v_ic_ne_f (t := 12) rfl (by decide) (by decide) ?_
                refine q_iconst rfl ?_
                refine q_goto (t := 13) rfl (by decide) ?_
                refine v_zret rfl rfl (by decide) ?_
                refine bk_inl ?_
                refine v_if_eq_f (t := 136) rfl (by decide) (by decide) ?_
                refine q_aload_n rfl rfl ?_
                refine v_cv rfl rfl rfl rfl (by decide) ⟨⟨rfl, rfl⟩, by decide, rfl⟩ (Nat.le_of_ble_eq_true rfl) (Nat.le_of_ble_eq_true rfl) ?_
                refine q_aload_n rfl rfl ?_
                have kn_505 : Hid (c2 41 3 = e1) := (hFc 41 3 (fun q => q.elim (fun h => absurd h.2 (ni rfl)) (fun q => q.elim (fun h => absurd h.2 (ni rfl)) (fun q => q.elim (fun h => absurd h.2 (ni rfl)) (fun q => q.elim (fun h => absurd h.2 (ni rfl)) (fun q => q.elim (fun h => absurd h.2 (ni rfl)) (fun q => q.elim (fun h => absurd h.2 (ni rfl)) (fun q => q.elim (fun h => absurd h.2 (ni rfl)) (fun q => q.elim (fun h => absurd h (nn rfl)) (fun q => q.elim (fun h => absurd h (nn rfl)) (fun h => absurd h (nn rfl)))))))))))).trans (hr_e1)
                have h_506 : -2147483648 ≤ (H (nx F e1 a)) ∧ (H (nx F e1 a)) ≤ 2147483647 := by rw [← hH (nx F e1 a)]; exact ir_43 hI (nx F e1 a)
                have h_507 := hU (nx F e1 a) (by omega) (by omega)
                have h_508 := hb_or (b := H) (e := e1) (r := (nx F e1 a))
                have h_509 := hb_bd (b := H) (e := e1) (r := (nx F e1 a)) (lo := -2147483648) (hi := 2147483647) ⟨by omega, by omega⟩ (by decide)
                refine v_cv rfl rfl rfl rfl (by decide) ⟨⟨rfl, rfl⟩, by decide, rfl⟩ (Nat.le_of_ble_eq_true rfl) (Nat.le_of_ble_eq_true rfl) (f_154 (e1 := e1) (a9 := a) (B := H) (r8 := (nx F e1 a)) (r := (hb H e1 (nx F e1 a))) hI2 ((hid kn_505)) ((hr_a)) (fun j => (hFc 43 j (fun q => q.elim (fun h => absurd h.1 (nn rfl)) (fun q => q.elim (fun h => absurd h.1 (nn rfl)) (fun q => q.elim (fun h => absurd h.1 (nn rfl)) (fun q => q.elim (fun h => absurd h.1 (nn rfl)) (fun q => q.elim (fun h => absurd h.1 (nn rfl)) (fun q => q.elim (fun h => absurd h.1 (nn rfl)) (fun q => q.elim (fun h => absurd h.1 (nn rfl)) (fun q => q.elim (fun h => absurd h (nn rfl)) (fun q => q.elim (fun h => absurd h (nn rfl)) (fun h => absurd h (nn rfl)))))))))))).trans (hH j)) ((nx_tr hU (by omega) (by omega)).trans (rfl)) rfl (fun c_510 hI_511 hF_512 h_513 => ?_))
                refine bk_inl ?_
                refine q_pop rfl rfl ?_
                refine q_aload_n rfl rfl ?_
                refine v_gi (z := 4) (v := (nx F e1 a)) rfl rfl rfl (by decide) rfl rfl (h_513) ?_
                refine q_aload_n rfl rfl ?_
                have kn_514 : Hid (c_510 41 3 = e1) := (hF_512 41 3 (fun h => absurd h.2 (ni rfl))).trans (hid kn_505)
                refine v_gi (z := 3) (v := e1) rfl rfl rfl (by decide) rfl rfl (hid kn_514) ?_
                refine v_ic_ge_f (t := 20) rfl (by decide) (by omega) ?_
                refine q_iconst rfl ?_
                refine q_goto (t := 21) rfl (by decide) ?_
                refine v_zret rfl rfl (by decide) ?_
                refine bk_inl ?_
                refine v_if_eq_f (t := 136) rfl (by decide) (by decide) ?_
                refine q_aload_n rfl rfl ?_
                have h_515 := wv_bd (b := F) (r := (nx F e1 a)) (l := (ln F e1 (nx F e1 a))) (fun j h1 h2 => ⟨(ln_in (e := e1) (a := (nx F e1 a)) h1 (by omega)).1, (ln_in (e := e1) (a := (nx F e1 a)) h1 (by omega)).2.1⟩)
                have h_516 := wr8_0 (b := F) (r := (nx F e1 a)) (l := (ln F e1 (nx F e1 a))) (by omega) (fun j h1 h2 => ⟨(ln_in (e := e1) (a := (nx F e1 a)) h1 (by omega)).1, (ln_in (e := e1) (a := (nx F e1 a)) h1 (by omega)).2.1⟩) (by omega)
                refine v_cv rfl rfl rfl rfl (by decide) ⟨⟨rfl, rfl⟩, by decide, rfl⟩ (Nat.le_of_ble_eq_true rfl) (Nat.le_of_ble_eq_true rfl) (f_157 (e1 := e1) (a9 := (nx F e1 a)) (B := H) (r8 := (nx F e1 a)) (L8 := (ln F e1 (nx F e1 a))) (W8 := (wv F (nx F e1 a) (ln F e1 (nx F e1 a)))) hI_511 ((hid kn_514)) ((h_513)) (fun j => ((hF_512 43 j (fun h => absurd h.1 (nn rfl))).trans (hFc 43 j (fun q => q.elim (fun h => absurd h.1 (nn rfl)) (fun q => q.elim (fun h => absurd h.1 (nn rfl)) (fun q => q.elim (fun h => absurd h.1 (nn rfl)) (fun q => q.elim (fun h => absurd h.1 (nn rfl)) (fun q => q.elim (fun h => absurd h.1 (nn rfl)) (fun q => q.elim (fun h => absurd h.1 (nn rfl)) (fun q => q.elim (fun h => absurd h.1 (nn rfl)) (fun q => q.elim (fun h => absurd h (nn rfl)) (fun q => q.elim (fun h => absurd h (nn rfl)) (fun h => absurd h (nn rfl))))))))))))).trans (hH j)) ((nx_tr hU (by omega) (by omega)).trans ((nx_z (by omega)))) ((ln_tr hU (by omega) (by omega)).trans (rfl)) ((wv_tr hU (by omega) (by omega) (fun j h1 h2 => ⟨(ln_in (e := e1) (a := (nx F e1 a)) h1 (by omega)).1, (ln_in (e := e1) (a := (nx F e1 a)) h1 (by omega)).2.1⟩)).trans (rfl)) (fun c_517 hI_518 hF_519 hz_520 => ?_))
                refine bk_inl ?_
                refine q_istore_n rfl (by decide) ?_
                refine q_iload_n rfl rfl ?_
                refine q_call rfl rfl rfl rfl ?_
                refine q_iload_n rfl rfl ?_
                refine q_ldc_s rfl rfl rfl (by decide) ?_
                refine q_call rfl rfl rfl rfl (s_158_16 ?_)
                refine bk_inl ?_
                refine v_ic_eq_t (t := 36) rfl (by decide) (by omega) ?_
                refine q_iconst rfl ?_
                refine q_goto (t := 41) rfl (by decide) ?_
                refine v_zret rfl rfl (by decide) ?_
                refine bk_inl ?_
                refine v_if_ne_t (t := 82) rfl (by decide) (by decide) ?_
                refine q_iload_n rfl rfl ?_
                refine v_bip rfl (by decide) ?_
                refine v_ic_eq_f (t := 96) rfl (by decide) (by omega) ?_
                refine q_aload_n rfl rfl ?_
                refine q_iload_n rfl rfl ?_
                refine v_cv rfl rfl rfl rfl (by decide) ⟨⟨rfl, rfl⟩, by decide, rfl⟩ (Nat.le_of_ble_eq_true rfl) (Nat.le_of_ble_eq_true rfl) ?_
                refine q_iload_n rfl rfl ?_
                refine q_ldc_s rfl rfl rfl (by decide) ?_
                refine q_call rfl rfl rfl rfl (s_158_16 ?_)
                refine bk_inl ?_
                refine v_ic_ne_f (t := 26) rfl (by decide) (by omega) ?_
                refine q_aload_n rfl rfl ?_
                have kn_521 : Hid (c_510 41 16 = jr) := (hF_512 41 16 (fun h => absurd h.2 (ni rfl))).trans (hr_jr)
                have kn_522 : Hid (c_517 41 16 = jr) := (hF_519 41 16 (fun h => absurd h.2 (ni rfl))).trans (hid kn_521)
                refine v_gi (z := 16) (v := jr) rfl rfl rfl (by decide) rfl rfl (hid kn_522) ?_
                refine v_bip rfl (by decide) ?_
                refine v_ic_ne_t (t := 22) rfl (by decide) (by omega) ?_
                refine q_iconst rfl ?_
                refine q_goto (t := 73) rfl (by decide) ?_
                refine v_zret rfl rfl (by decide) ?_
                refine bk_inl ?_
                refine v_if_eq_t (t := 105) rfl (by decide) (by decide) ?_
                refine q_aload_n rfl rfl ?_
                refine v_cv rfl rfl rfl rfl (by decide) ⟨⟨rfl, rfl⟩, by decide, rfl⟩ (Nat.le_of_ble_eq_true rfl) (Nat.le_of_ble_eq_true rfl) ?_
                refine q_aload_n rfl rfl ?_
                have kn_523 : Hid (c_510 41 5 = (-1)) := (hF_512 41 5 (fun h => absurd h.2 (ni rfl))).trans (hc_1)
                have kn_524 : Hid (c_517 41 5 = (-1)) := (hF_519 41 5 (fun h => absurd h.2 (ni rfl))).trans (hid kn_523)
                refine v_gi (z := 5) (v := (-1)) rfl rfl rfl (by decide) rfl rfl (hid kn_524) ?_
                refine q_iconst rfl ?_
                refine v_ic_ne_f (t := 12) rfl (by decide) (by decide) ?_
                refine q_iconst rfl ?_
                refine q_goto (t := 13) rfl (by decide) ?_
                refine v_zret rfl rfl (by decide) ?_
                refine bk_inl ?_
                refine v_if_ne_t (t := 115) rfl (by decide) (by decide) ?_
                refine q_aload_n rfl rfl ?_
                have kn_525 : Hid (c_517 41 3 = e1) := (hF_519 41 3 (fun h => absurd h.2 (ni rfl))).trans (hid kn_514)
                refine v_cv rfl rfl rfl rfl (by decide) ⟨⟨rfl, rfl⟩, by decide, rfl⟩ (Nat.le_of_ble_eq_true rfl) (Nat.le_of_ble_eq_true rfl) (f_159 (e1 := e1) (a9 := (nx F e1 a)) (B := H) (L8 := (ln F e1 (nx F e1 a))) hI_518 ((hid kn_525)) ((hz_520)) (fun j => ((hF_519 43 j (fun h => absurd h.1 (nn rfl))).trans ((hF_512 43 j (fun h => absurd h.1 (nn rfl))).trans (hFc 43 j (fun q => q.elim (fun h => absurd h.1 (nn rfl)) (fun q => q.elim (fun h => absurd h.1 (nn rfl)) (fun q => q.elim (fun h => absurd h.1 (nn rfl)) (fun q => q.elim (fun h => absurd h.1 (nn rfl)) (fun q => q.elim (fun h => absurd h.1 (nn rfl)) (fun q => q.elim (fun h => absurd h.1 (nn rfl)) (fun q => q.elim (fun h => absurd h.1 (nn rfl)) (fun q => q.elim (fun h => absurd h (nn rfl)) (fun q => q.elim (fun h => absurd h (nn rfl)) (fun h => absurd h (nn rfl)))))))))))))).trans (hH j)) ((ln_tr hU (by omega) (by omega)).trans (rfl)) (fun c_526 hI_527 hF_528 hz_529 => ?_))
                refine bk_inl ?_
                refine q_aload_n rfl rfl ?_
                refine q_iload_n rfl rfl ?_
                have hw_530 : (wv F (nx F e1 a) (ln F e1 (nx F e1 a))) = 10290 := by omega
                rw [hw_530]
                have kn_531 : Hid (c_103 1 1 = e1) := (hF_105 1 1 (fun q => q.elim (fun h => absurd h.2 (ni rfl)) (fun q => q.elim (fun h => absurd h.2 (ni rfl)) (fun h => absurd h.2 (ni rfl))))).trans (hid kn_82)
                have kn_532 : Hid (c_526 41 3 = e1) := (hF_528 41 3 (fun h => absurd h.2 (ni rfl))).trans (hid kn_525)
                have kn_533 : Hid (c_526 41 16 = jr) := (hF_528 41 16 (fun h => absurd h.2 (ni rfl))).trans (hid kn_522)
                have kn_534 : Hid (c_510 41 17 = st) := (hF_512 41 17 (fun h => absurd h.2 (ni rfl))).trans (hr_st)
                have kn_535 : Hid (c_517 41 17 = st) := (hF_519 41 17 (fun h => absurd h.2 (ni rfl))).trans (hid kn_534)
                have kn_536 : Hid (c_526 41 17 = st) := (hF_528 41 17 (fun h => absurd h.2 (ni rfl))).trans (hid kn_535)
                have kn_537 : Hid (c_510 41 18 = si) := (hF_512 41 18 (fun h => absurd h.2 (ni rfl))).trans (hr_si)
                have kn_538 : Hid (c_517 41 18 = si) := (hF_519 41 18 (fun h => absurd h.2 (ni rfl))).trans (hid kn_537)
                have kn_539 : Hid (c_526 41 18 = si) := (hF_528 41 18 (fun h => absurd h.2 (ni rfl))).trans (hid kn_538)
                have kn_540 : Hid (c_27 A 3 = du) := (hF_29 A 3 (fun h => absurd h.1 (np0 hA rfl))).trans (hg_du)
                have kn_541 : Hid (c_78 A 3 = du) := (hF_80 A 3 (fun h => absurd h.1 (np0 hA rfl))).trans (hid kn_540)
                have kn_542 : Hid (c_103 A 3 = du) := (hF_105 A 3 (fun q => q.elim (fun h => absurd h.1 (np0 hA rfl)) (fun q => q.elim (fun h => absurd h.1 (np0 hA rfl)) (fun h => absurd h.1 (np0 hA rfl))))).trans (hid kn_541)
                have kn_543 : Hid (c_510 41 19 = du) := (hF_512 41 19 (fun h => absurd h.2 (ni rfl))).trans (hr_du)
                have kn_544 : Hid (c_517 41 19 = du) := (hF_519 41 19 (fun h => absurd h.2 (ni rfl))).trans (hid kn_543)
                have kn_545 : Hid (c_526 41 19 = du) := (hF_528 41 19 (fun h => absurd h.2 (ni rfl))).trans (hid kn_544)
                have h_546 : c_103 1 4 = 0 := (hz_109)
                have h_547 : c_103 1 2 = (ln F e1 (nx F e1 a)) := (hz_108)
                have h_548 : c_103 1 5 = (-1) := (hz_110)
                have kn_549 : Hid (c_526 41 5 = (-1)) := (hF_528 41 5 (fun h => absurd h.2 (ni rfl))).trans (hid kn_524)
                have h_550 : c_526 41 5 = (-1) := (hid kn_549)
                have h_551 : c_526 41 4 = (ln F e1 (nx F e1 a)) := (hz_529)
                have h_552 := ir_41_6 hI2
                have kn_553 : Hid (c_510 41 6 = c2 41 6) := hF_512 41 6 (fun h => absurd h.2 (ni rfl))
                have kn_554 : Hid (c_517 41 6 = c2 41 6) := (hF_519 41 6 (fun h => absurd h.2 (ni rfl))).trans (hid kn_553)
                have kn_555 : Hid (c_526 41 6 = c2 41 6) := (hF_528 41 6 (fun h => absurd h.2 (ni rfl))).trans (hid kn_554)
                have h_556 : c_526 41 6 = c2 41 6 := (hid kn_555)
                refine v_cv rfl rfl rfl rfl (by decide) ⟨⟨rfl, rfl⟩, by decide, rfl⟩ (Nat.le_of_ble_eq_true rfl) (Nat.le_of_ble_eq_true rfl) (L_33_0 (m := c_103) (e1 := e1) (jr := jr) (st := st) (si := si) (du := du) (F := F) (H := H) hI_527 hI_104 hI_377 hA (by omega) ((hid kn_531)) ((hid kn_532)) ((hid kn_364)) ((hid kn_533)) ((hid kn_370)) ((hid kn_536)) ((hid kn_374)) ((hid kn_539)) ((hid kn_542)) ((hid kn_545)) (fun j => ((hF_105 2 j (fun q => q.elim (fun h => absurd h.1 (nn rfl)) (fun q => q.elim (fun h => absurd h.1 (nn rfl)) (fun h => absurd h.1 (nn rfl))))).trans ((hF_80 2 j (fun h => absurd h.1 (nn rfl))).trans ((hF_29 2 j (fun h => absurd h.1 (nn rfl))).trans (hFm 2 j (fun q => q.elim (fun h => absurd h.1 (nn rfl)) (fun q => q.elim (fun h => absurd h.1 (nn rfl)) (fun q => q.elim (fun h => absurd h.1 (nn rfl)) (fun q => q.elim (fun h => absurd h.1 (pn0 hA rfl)) (fun q => q.elim (fun h => absurd h.1 (pn0 hA rfl)) (fun q => q.elim (fun h => absurd h.1 (pn0 hA rfl)) (fun q => q.elim (fun h => absurd h.1 (pn0 hA rfl)) (fun q => q.elim (fun h => absurd h (pn hA rfl rfl)) (fun q => q.elim (fun h => absurd h (pn hA rfl rfl)) (fun q => q.elim (fun h => absurd h (pn hA rfl rfl)) (fun q => q.elim (fun h => absurd h.1 (pn0 hA rfl)) (fun q => q.elim (fun h => absurd h.1 (pn0 hA rfl)) (fun q => q.elim (fun h => absurd h (pn hA rfl rfl)) (fun h => absurd h.1 (pn hA rfl rfl))))))))))))))))))).trans (hF j)) (fun j => ((hF_528 43 j (fun h => absurd h.1 (nn rfl))).trans ((hF_519 43 j (fun h => absurd h.1 (nn rfl))).trans ((hF_512 43 j (fun h => absurd h.1 (nn rfl))).trans (hFc 43 j (fun q => q.elim (fun h => absurd h.1 (nn rfl)) (fun q => q.elim (fun h => absurd h.1 (nn rfl)) (fun q => q.elim (fun h => absurd h.1 (nn rfl)) (fun q => q.elim (fun h => absurd h.1 (nn rfl)) (fun q => q.elim (fun h => absurd h.1 (nn rfl)) (fun q => q.elim (fun h => absurd h.1 (nn rfl)) (fun q => q.elim (fun h => absurd h.1 (nn rfl)) (fun q => q.elim (fun h => absurd h (nn rfl)) (fun q => q.elim (fun h => absurd h (nn rfl)) (fun h => absurd h (nn rfl))))))))))))))).trans (hH j)) hU (by unfold Rt; omega) hG_379 (fun c_557 hI_558 hF_559 hR_561 h_562 h_563 h_564 h_565 => ?_))
                refine bk_inl ?_
                have h_566 := ir_41_16 hI_558
                have h_567 := ir_41_17 hI_558
                have h_568 := ir_41_18 hI_558
                have h_569 := ir_41_19 hI_558
                refine q_aload_n rfl rfl ?_
                refine v_bip rfl (by decide) ?_
                have kn_570 : Hid (c_376 1 1 = e1) := (hF_378 1 1 (fun q => q.elim (fun h => absurd h.2 (ni rfl)) (fun q => q.elim (fun h => absurd h.2 (ni rfl)) (fun q => q.elim (fun h => absurd h.2 (ni rfl)) (fun q => q.elim (fun h => absurd h.1 (pn0 hA rfl)) (fun q => q.elim (fun h => absurd h.1 (pn0 hA rfl)) (fun q => q.elim (fun h => absurd h.1 (pn0 hA rfl)) (fun q => q.elim (fun h => absurd h.1 (pn0 hA rfl)) (fun q => q.elim (fun h => absurd h (pn hA rfl rfl)) (fun q => q.elim (fun h => absurd h (pn hA rfl rfl)) (fun h => absurd h (pn hA rfl rfl)))))))))))).trans (hid kn_531)
                have kn_571 : Hid (c_557 41 3 = e1) := (hF_559 41 3 (fun q => q.elim (fun h => absurd h.2 (ni rfl)) (fun q => q.elim (fun h => absurd h.2 (ni rfl)) (fun q => q.elim (fun h => absurd h.2 (ni rfl)) (fun q => q.elim (fun h => absurd h.2 (ni rfl)) (fun q => q.elim (fun h => absurd h.2 (ni rfl)) (fun q => q.elim (fun h => absurd h.2 (ni rfl)) (fun q => q.elim (fun h => absurd h.2 (ni rfl)) (fun q => q.elim (fun h => absurd h (nn rfl)) (fun q => q.elim (fun h => absurd h (nn rfl)) (fun h => absurd h (nn rfl)))))))))))).trans (hid kn_532)
                have h_572 := ir_1_2 hI_377
                refine v_cv rfl rfl rfl rfl (by decide) ⟨⟨rfl, rfl⟩, by decide, rfl⟩ (Nat.le_of_ble_eq_true rfl) (Nat.le_of_ble_eq_true rfl) (L_11_9 (m := c_376) (e1 := e1) (a9 := c_376 1 2) (F := F) (H := H) hI_558 hI_377 hI_382 ((hid kn_570)) ((hid kn_571)) (rfl) (fun j => ((hF_378 2 j (fun q => q.elim (fun h => absurd h.1 (nn rfl)) (fun q => q.elim (fun h => absurd h.1 (nn rfl)) (fun q => q.elim (fun h => absurd h.1 (nn rfl)) (fun q => q.elim (fun h => absurd h.1 (pn0 hA rfl)) (fun q => q.elim (fun h => absurd h.1 (pn0 hA rfl)) (fun q => q.elim (fun h => absurd h.1 (pn0 hA rfl)) (fun q => q.elim (fun h => absurd h.1 (pn0 hA rfl)) (fun q => q.elim (fun h => absurd h (pn hA rfl rfl)) (fun q => q.elim (fun h => absurd h (pn hA rfl rfl)) (fun h => absurd h (pn hA rfl rfl)))))))))))).trans ((hF_105 2 j (fun q => q.elim (fun h => absurd h.1 (nn rfl)) (fun q => q.elim (fun h => absurd h.1 (nn rfl)) (fun h => absurd h.1 (nn rfl))))).trans ((hF_80 2 j (fun h => absurd h.1 (nn rfl))).trans ((hF_29 2 j (fun h => absurd h.1 (nn rfl))).trans (hFm 2 j (fun q => q.elim (fun h => absurd h.1 (nn rfl)) (fun q => q.elim (fun h => absurd h.1 (nn rfl)) (fun q => q.elim (fun h => absurd h.1 (nn rfl)) (fun q => q.elim (fun h => absurd h.1 (pn0 hA rfl)) (fun q => q.elim (fun h => absurd h.1 (pn0 hA rfl)) (fun q => q.elim (fun h => absurd h.1 (pn0 hA rfl)) (fun q => q.elim (fun h => absurd h.1 (pn0 hA rfl)) (fun q => q.elim (fun h => absurd h (pn hA rfl rfl)) (fun q => q.elim (fun h => absurd h (pn hA rfl rfl)) (fun q => q.elim (fun h => absurd h (pn hA rfl rfl)) (fun q => q.elim (fun h => absurd h.1 (pn0 hA rfl)) (fun q => q.elim (fun h => absurd h.1 (pn0 hA rfl)) (fun q => q.elim (fun h => absurd h (pn hA rfl rfl)) (fun h => absurd h.1 (pn hA rfl rfl)))))))))))))))))))).trans (hF j)) (fun j => ((hF_559 43 j (fun q => q.elim (fun h => absurd h.1 (nn rfl)) (fun q => q.elim (fun h => absurd h.1 (nn rfl)) (fun q => q.elim (fun h => absurd h.1 (nn rfl)) (fun q => q.elim (fun h => absurd h.1 (nn rfl)) (fun q => q.elim (fun h => absurd h.1 (nn rfl)) (fun q => q.elim (fun h => absurd h.1 (nn rfl)) (fun q => q.elim (fun h => absurd h.1 (nn rfl)) (fun q => q.elim (fun h => absurd h (nn rfl)) (fun q => q.elim (fun h => absurd h (nn rfl)) (fun h => absurd h (nn rfl)))))))))))).trans ((hF_528 43 j (fun h => absurd h.1 (nn rfl))).trans ((hF_519 43 j (fun h => absurd h.1 (nn rfl))).trans ((hF_512 43 j (fun h => absurd h.1 (nn rfl))).trans (hFc 43 j (fun q => q.elim (fun h => absurd h.1 (nn rfl)) (fun q => q.elim (fun h => absurd h.1 (nn rfl)) (fun q => q.elim (fun h => absurd h.1 (nn rfl)) (fun q => q.elim (fun h => absurd h.1 (nn rfl)) (fun q => q.elim (fun h => absurd h.1 (nn rfl)) (fun q => q.elim (fun h => absurd h.1 (nn rfl)) (fun q => q.elim (fun h => absurd h.1 (nn rfl)) (fun q => q.elim (fun h => absurd h (nn rfl)) (fun q => q.elim (fun h => absurd h (nn rfl)) (fun h => absurd h (nn rfl)))))))))))))))).trans (hH j)) hU hR_561 hG_384 (fun c_573 hI_574 hF_575 hR_577 h_578 => ?_))
                refine bk_inl ?_
                refine v_iinc (v := v + 1) rfl rfl (by decide) (by omega) ?_
                refine q_goto (t := 44) rfl (by decide) ?_
                refine q_aload_n rfl rfl ?_
                refine v_cv rfl rfl rfl rfl (by decide) ⟨⟨rfl, rfl⟩, by decide, rfl⟩ (Nat.le_of_ble_eq_true rfl) (Nat.le_of_ble_eq_true rfl) ?_
                refine q_aload_n rfl rfl ?_
                have h_579 := ir_41_5 hI_574
                have h_580 := ir_41_4 hI_574
                have h_581 := ir_41_6 hI_574
                have h_582 := rt_bad hR_577 (by omega)
                have hrb_hR_577 := rt_bad hR_577 (by omega)
                refine v_gi (z := 5) (v := c_381 1 5) rfl rfl rfl (by decide) rfl rfl hrb_hR_577.2.1 ?_
                refine q_iconst rfl ?_
                refine v_ic_ne_t (t := 12) rfl (by decide) (by omega) ?_
                refine q_iconst rfl ?_
                refine v_zret rfl rfl (by decide) ?_
                refine bk_inl ?_
                refine v_if_eq_t (t := 136) rfl (by decide) (by decide) ?_
                refine Wp_ls [(0, .ref 41), (1, vi a1)] (lsub_cons rfl (lsub_cons rfl lsub_nil)) ?_
                have h_583 : c_573 41 5 = c_381 1 5 := hrb_hR_577.2.1
                have h_584 : c_573 41 6 = c_381 1 4 := hrb_hR_577.2.2.2
                have kn_585 : Hid (c_573 41 16 = c_557 41 16) := hF_575 41 16 (fun q => q.elim (fun h => absurd h.2 (ni rfl)) (fun q => q.elim (fun h => absurd h.2 (ni rfl)) (fun h => absurd h.2 (ni rfl))))
                have h_586 : c_573 41 16 = c_557 41 16 := (hid kn_585)
                have kn_587 : Hid (c_573 41 17 = c_557 41 17) := hF_575 41 17 (fun q => q.elim (fun h => absurd h.2 (ni rfl)) (fun q => q.elim (fun h => absurd h.2 (ni rfl)) (fun h => absurd h.2 (ni rfl))))
                have h_588 : c_573 41 17 = c_557 41 17 := (hid kn_587)
                have kn_589 : Hid (c_573 41 18 = c_557 41 18) := hF_575 41 18 (fun q => q.elim (fun h => absurd h.2 (ni rfl)) (fun q => q.elim (fun h => absurd h.2 (ni rfl)) (fun h => absurd h.2 (ni rfl))))
                have h_590 : c_573 41 18 = c_557 41 18 := (hid kn_589)
                have kn_591 : Hid (c_573 41 19 = c_557 41 19) := hF_575 41 19 (fun q => q.elim (fun h => absurd h.2 (ni rfl)) (fun q => q.elim (fun h => absurd h.2 (ni rfl)) (fun h => absurd h.2 (ni rfl))))
                have h_592 : c_573 41 19 = c_557 41 19 := (hid kn_591)
                exact K c_573  hI_574 (fun a j hm => (hF_575 a j (fun q => q.elim (fun h => hm (Or.inl h)) (fun q => q.elim (fun h => hm (Or.inr (Or.inl h))) (fun h => hm (Or.inr (Or.inr (Or.inl h))))))).trans ((hF_559 a j (fun q => q.elim (fun h => hm (Or.inl h)) (fun q => q.elim (fun h => hm (Or.inr (Or.inl h))) (fun q => q.elim (fun h => hm (Or.inr (Or.inr (Or.inl h)))) (fun q => q.elim (fun h => hm (Or.inr (Or.inr (Or.inr (Or.inl h))))) (fun q => q.elim (fun h => hm (Or.inr (Or.inr (Or.inr (Or.inr (Or.inl h)))))) (fun q => q.elim (fun h => hm (Or.inr (Or.inr (Or.inr (Or.inr (Or.inr (Or.inl h))))))) (fun q => q.elim (fun h => hm (Or.inr (Or.inr (Or.inr (Or.inr (Or.inr (Or.inr (Or.inl h)))))))) (fun q => q.elim (fun h => hm (Or.inr (Or.inr (Or.inr (Or.inr (Or.inr (Or.inr (Or.inr (Or.inl h))))))))) (fun q => q.elim (fun h => hm (Or.inr (Or.inr (Or.inr (Or.inr (Or.inr (Or.inr (Or.inr (Or.inr (Or.inl h)))))))))) (fun h => hm (Or.inr (Or.inr (Or.inr (Or.inr (Or.inr (Or.inr (Or.inr (Or.inr (Or.inr h)))))))))))))))))))).trans ((hF_528 a j (fun h => hm (Or.inl h))).trans ((hF_519 a j (fun h => hm (Or.inl h))).trans ((hF_512 a j (fun h => hm (Or.inl h))).trans (hFc a j (fun q => q.elim (fun h => hm (Or.inl h)) (fun q => q.elim (fun h => hm (Or.inr (Or.inl h))) (fun q => q.elim (fun h => hm (Or.inr (Or.inr (Or.inl h)))) (fun q => q.elim (fun h => hm (Or.inr (Or.inr (Or.inr (Or.inl h))))) (fun q => q.elim (fun h => hm (Or.inr (Or.inr (Or.inr (Or.inr (Or.inl h)))))) (fun q => q.elim (fun h => hm (Or.inr (Or.inr (Or.inr (Or.inr (Or.inr (Or.inl h))))))) (fun q => q.elim (fun h => hm (Or.inr (Or.inr (Or.inr (Or.inr (Or.inr (Or.inr (Or.inl h)))))))) (fun q => q.elim (fun h => hm (Or.inr (Or.inr (Or.inr (Or.inr (Or.inr (Or.inr (Or.inr (Or.inl h))))))))) (fun q => q.elim (fun h => hm (Or.inr (Or.inr (Or.inr (Or.inr (Or.inr (Or.inr (Or.inr (Or.inr (Or.inl h)))))))))) (fun h => hm (Or.inr (Or.inr (Or.inr (Or.inr (Or.inr (Or.inr (Or.inr (Or.inr (Or.inr h))))))))))))))))))))))))) (by unfold Rt; omega) (by omega)
            · refine v_ic_ne_f (t := 41) rfl (by decide) (by omega) ?_
              refine q_iconst rfl ?_
              refine q_goto (t := 42) rfl (by decide) ?_
              refine v_zret rfl rfl (by decide) ?_
              refine bk_inl ?_
              refine v_if_eq_f (t := 59) rfl (by decide) (by decide) ?_
              refine q_aload_n rfl rfl ?_
              refine q_iconst rfl ?_
              refine q_iload_n rfl rfl ?_
              refine v_cv rfl rfl rfl rfl (by decide) ⟨⟨rfl, rfl⟩, by decide, rfl⟩ (Nat.le_of_ble_eq_true rfl) (Nat.le_of_ble_eq_true rfl) ?_
              refine q_aload_n rfl rfl ?_
              refine v_gi (z := 4) (v := 0) rfl rfl rfl (by decide) rfl rfl (hz_109) ?_
              refine v_if_ne_f (t := 17) rfl (by decide) (by decide) ?_
              refine q_aload_n rfl rfl ?_
              refine q_iload_n rfl rfl ?_
              refine v_pi (z := 4) rfl rfl rfl (by decide) rfl rfl rfl (by decide) ?_
              refine q_aload_n rfl rfl ?_
              refine q_iload_n rfl rfl ?_
              refine v_pi (z := 5) rfl rfl rfl (by decide) rfl rfl rfl (by decide) ?_
              refine q_vret rfl rfl ?_
              refine bk_inl ?_
              refine q_aload_n rfl rfl ?_
              refine v_cv rfl rfl rfl rfl (by decide) ⟨⟨rfl, rfl⟩, by decide, rfl⟩ (Nat.le_of_ble_eq_true rfl) (Nat.le_of_ble_eq_true rfl) ?_
              refine q_aload_n rfl rfl ?_
              refine v_gi (z := 4) (v := 3) rfl rfl rfl (by decide) rfl rfl ((up_n (by decide)).trans (up_e rfl)) ?_
              refine v_if_ne_t (t := 11) rfl (by decide) (by decide) ?_
              refine q_iconst rfl ?_
              refine v_zret rfl rfl (by decide) ?_
              refine bk_inl ?_
              refine v_if_eq_t (t := 73) rfl (by decide) (by decide) ?_
              refine q_aload_n rfl rfl ?_
              refine q_ldc_s rfl rfl rfl (by decide) ?_
              refine v_cv rfl rfl rfl rfl (by decide) ⟨⟨rfl, rfl⟩, by decide, rfl⟩ (Nat.le_of_ble_eq_true rfl) (Nat.le_of_ble_eq_true rfl) ?_
              refine q_aload_n rfl rfl ?_
              refine v_cv rfl rfl rfl rfl (by decide) ⟨⟨rfl, rfl⟩, by decide, rfl⟩ (Nat.le_of_ble_eq_true rfl) (Nat.le_of_ble_eq_true rfl) ?_
              refine q_aload_n rfl rfl ?_
              refine v_gi (z := 4) (v := 3) rfl rfl rfl (by decide) rfl rfl ((up_n (by decide)).trans (up_e rfl)) ?_
              refine v_if_ne_t (t := 11) rfl (by decide) (by decide) ?_
              refine q_iconst rfl ?_
              refine v_zret rfl rfl (by decide) ?_
              refine bk_inl ?_
              refine v_if_eq_t (t := 25) rfl (by decide) (by decide) ?_
              refine q_vret rfl rfl ?_
              refine bk_inl ?_
              refine v_iinc (v := v + 1) rfl rfl (by decide) (by omega) ?_
              refine q_goto (t := 6) rfl (by decide) ?_
              refine q_iload_n rfl rfl ?_
              refine v_bip rfl (by decide) ?_
              refine v_ic_gt_f (t := 85) rfl (by decide) (by omega) ?_
              refine q_aload_n rfl rfl ?_
              refine v_cv rfl rfl rfl rfl (by decide) ⟨⟨rfl, rfl⟩, by decide, rfl⟩ (Nat.le_of_ble_eq_true rfl) (Nat.le_of_ble_eq_true rfl) ?_
              refine q_aload_n rfl rfl ?_
              refine v_cv rfl rfl rfl rfl (by decide) ⟨⟨rfl, rfl⟩, by decide, rfl⟩ (Nat.le_of_ble_eq_true rfl) (Nat.le_of_ble_eq_true rfl) ?_
              refine q_aload_n rfl rfl ?_
              refine v_gi (z := 4) (v := 3) rfl rfl rfl (by decide) rfl rfl ((up_n (by decide)).trans (up_e rfl)) ?_
              refine v_if_ne_t (t := 11) rfl (by decide) (by decide) ?_
              refine q_iconst rfl ?_
              refine v_zret rfl rfl (by decide) ?_
              refine bk_inl ?_
              refine v_if_eq_t (t := 22) rfl (by decide) (by decide) ?_
              refine q_iconst rfl ?_
              refine v_zret rfl rfl (by decide) ?_
              refine bk_inl ?_
              refine v_if_eq_t (t := 85) rfl (by decide) (by decide) ?_
              refine q_vret rfl rfl ?_
              have hI_593 := iw_1_4 (v := 3) hI_104 ⟨by decide, by decide⟩
              have hI_594 := iw_1_5 (v := (nx F e1 a)) hI_593 ⟨by omega, by omega⟩
              intro hE_595
              have hW : Wd P Q P P (up (up c_103 1 4 3) 1 5 (nx F e1 a)) = Wd P Q P P m9 := (Prod.mk.inj (Prod.mk.inj hE_595).2).1
              have h_596 := ir_1_4 hJ9
              have h_597 : m9 1 4 = 3 := wd_fv (z := 4) 4 rfl hW rfl rfl rfl rfl (by decide) ((up_n (by decide)).trans (up_e rfl)) ⟨by omega, by omega⟩ ⟨by omega, by omega⟩
              have h_598 := ir_1_2 hJ9
              have h_599 : m9 1 2 = (ln F e1 (nx F e1 a)) := wd_fv (z := 2) 2 rfl hW rfl rfl rfl rfl (by decide) ((up_n (by decide)).trans ((up_n (by decide)).trans (hz_108))) ⟨by omega, by omega⟩ ⟨by omega, by omega⟩
              have h_600 := ir_1_5 hJ9
              have h_601 : m9 1 5 = (nx F e1 a) := wd_fv (z := 5) 5 rfl hW rfl rfl rfl rfl (by decide) (up_e rfl) ⟨by omega, by omega⟩ ⟨by omega, by omega⟩
              have h_602 := ir_p0_0 hJ9 hA
              have h_603 : m9 A 0 = jr := wd_fv (z := 0) 0 rfl hW (ck_p0 hA) (ck_p0 hA) rfl rfl (by omega) ((up_c (np0 hA rfl)).trans ((up_c (np0 hA rfl)).trans (hid kn_364))) ⟨by omega, by omega⟩ ⟨by omega, by omega⟩
              have kn_604 : Hid (c_27 A 1 = st) := (hF_29 A 1 (fun h => absurd h.1 (np0 hA rfl))).trans (hg_st)
              have kn_605 : Hid (c_78 A 1 = st) := (hF_80 A 1 (fun h => absurd h.1 (np0 hA rfl))).trans (hid kn_604)
              have kn_606 : Hid (c_103 A 1 = st) := (hF_105 A 1 (fun q => q.elim (fun h => absurd h.1 (np0 hA rfl)) (fun q => q.elim (fun h => absurd h.1 (np0 hA rfl)) (fun h => absurd h.1 (np0 hA rfl))))).trans (hid kn_605)
              have h_607 := ir_p0_1 hJ9 hA
              have h_608 : m9 A 1 = st := wd_fv (z := 1) 1 rfl hW (ck_p0 hA) (ck_p0 hA) rfl rfl (by omega) ((up_c (np0 hA rfl)).trans ((up_c (np0 hA rfl)).trans (hid kn_606))) ⟨by omega, by omega⟩ ⟨by omega, by omega⟩
              have kn_609 : Hid (c_27 A 2 = si) := (hF_29 A 2 (fun h => absurd h.1 (np0 hA rfl))).trans (hg_si)
              have kn_610 : Hid (c_78 A 2 = si) := (hF_80 A 2 (fun h => absurd h.1 (np0 hA rfl))).trans (hid kn_609)
              have kn_611 : Hid (c_103 A 2 = si) := (hF_105 A 2 (fun q => q.elim (fun h => absurd h.1 (np0 hA rfl)) (fun q => q.elim (fun h => absurd h.1 (np0 hA rfl)) (fun h => absurd h.1 (np0 hA rfl))))).trans (hid kn_610)
              have h_612 := ir_p0_2 hJ9 hA
              have h_613 : m9 A 2 = si := wd_fv (z := 2) 2 rfl hW (ck_p0 hA) (ck_p0 hA) rfl rfl (by omega) ((up_c (np0 hA rfl)).trans ((up_c (np0 hA rfl)).trans (hid kn_611))) ⟨by omega, by omega⟩ ⟨by omega, by omega⟩
              have kn_614 : Hid (c_27 A 3 = du) := (hF_29 A 3 (fun h => absurd h.1 (np0 hA rfl))).trans (hg_du)
              have kn_615 : Hid (c_78 A 3 = du) := (hF_80 A 3 (fun h => absurd h.1 (np0 hA rfl))).trans (hid kn_614)
              have kn_616 : Hid (c_103 A 3 = du) := (hF_105 A 3 (fun q => q.elim (fun h => absurd h.1 (np0 hA rfl)) (fun q => q.elim (fun h => absurd h.1 (np0 hA rfl)) (fun h => absurd h.1 (np0 hA rfl))))).trans (hid kn_615)
              have h_617 := ir_p0_3 hJ9 hA
              have h_618 : m9 A 3 = du := wd_fv (z := 3) 3 rfl hW (ck_p0 hA) (ck_p0 hA) rfl rfl (by omega) ((up_c (np0 hA rfl)).trans ((up_c (np0 hA rfl)).trans (hid kn_616))) ⟨by omega, by omega⟩ ⟨by omega, by omega⟩
              refine q_aload_n rfl rfl ?_
              refine v_cv rfl rfl rfl rfl (by decide) ⟨⟨rfl, rfl⟩, by decide, rfl⟩ (Nat.le_of_ble_eq_true rfl) (Nat.le_of_ble_eq_true rfl) ?_
              refine q_aload_n rfl rfl ?_
              refine v_gi (z := 5) (v := (-1)) rfl rfl rfl (by decide) rfl rfl (hc_1) ?_
              refine q_iconst rfl ?_
              refine v_ic_ne_f (t := 12) rfl (by decide) (by decide) ?_
              refine q_iconst rfl ?_
              refine q_goto (t := 13) rfl (by decide) ?_
              refine v_zret rfl rfl (by decide) ?_
              refine bk_inl ?_
              refine v_if_eq_f (t := 136) rfl (by decide) (by decide) ?_
              refine q_aload_n rfl rfl ?_
              refine v_cv rfl rfl rfl rfl (by decide) ⟨⟨rfl, rfl⟩, by decide, rfl⟩ (Nat.le_of_ble_eq_true rfl) (Nat.le_of_ble_eq_true rfl) ?_
              refine q_aload_n rfl rfl ?_
              have kn_619 : Hid (c2 41 3 = e1) := (hFc 41 3 (fun q => q.elim (fun h => absurd h.2 (ni rfl)) (fun q => q.elim (fun h => absurd h.2 (ni rfl)) (fun q => q.elim (fun h => absurd h.2 (ni rfl)) (fun q => q.elim (fun h => absurd h.2 (ni rfl)) (fun q => q.elim (fun h => absurd h.2 (ni rfl)) (fun q => q.elim (fun h => absurd h.2 (ni rfl)) (fun q => q.elim (fun h => absurd h.2 (ni rfl)) (fun q => q.elim (fun h => absurd h (nn rfl)) (fun q => q.elim (fun h => absurd h (nn rfl)) (fun h => absurd h (nn rfl)))))))))))).trans (hr_e1)
              have h_620 : -2147483648 ≤ (H (nx F e1 a)) ∧ (H (nx F e1 a)) ≤ 2147483647 := by rw [← hH (nx F e1 a)]; exact ir_43 hI (nx F e1 a)
              have h_621 := hU (nx F e1 a) (by omega) (by omega)
              have h_622 := hb_or (b := H) (e := e1) (r := (nx F e1 a))
              have h_623 := hb_bd (b := H) (e := e1) (r := (nx F e1 a)) (lo := -2147483648) (hi := 2147483647) ⟨by omega, by omega⟩ (by decide)
              refine v_cv rfl rfl rfl rfl (by decide) ⟨⟨rfl, rfl⟩, by decide, rfl⟩ (Nat.le_of_ble_eq_true rfl) (Nat.le_of_ble_eq_true rfl) (f_154 (e1 := e1) (a9 := a) (B := H) (r8 := (nx F e1 a)) (r := (hb H e1 (nx F e1 a))) hI2 ((hid kn_619)) ((hr_a)) (fun j => (hFc 43 j (fun q => q.elim (fun h => absurd h.1 (nn rfl)) (fun q => q.elim (fun h => absurd h.1 (nn rfl)) (fun q => q.elim (fun h => absurd h.1 (nn rfl)) (fun q => q.elim (fun h => absurd h.1 (nn rfl)) (fun q => q.elim (fun h => absurd h.1 (nn rfl)) (fun q => q.elim (fun h => absurd h.1 (nn rfl)) (fun q => q.elim (fun h => absurd h.1 (nn rfl)) (fun q => q.elim (fun h => absurd h (nn rfl)) (fun q => q.elim (fun h => absurd h (nn rfl)) (fun h => absurd h (nn rfl)))))))))))).trans (hH j)) ((nx_tr hU (by omega) (by omega)).trans (rfl)) rfl (fun c_624 hI_625 hF_626 h_627 => ?_))
              refine bk_inl ?_
              refine q_pop rfl rfl ?_
              refine q_aload_n rfl rfl ?_
              refine v_gi (z := 4) (v := (nx F e1 a)) rfl rfl rfl (by decide) rfl rfl (h_627) ?_
              refine q_aload_n rfl rfl ?_
              have kn_628 : Hid (c_624 41 3 = e1) := (hF_626 41 3 (fun h => absurd h.2 (ni rfl))).trans (hid kn_619)
              refine v_gi (z := 3) (v := e1) rfl rfl rfl (by decide) rfl rfl (hid kn_628) ?_
              refine v_ic_ge_f (t := 20) rfl (by decide) (by omega) ?_
              refine q_iconst rfl ?_
              refine q_goto (t := 21) rfl (by decide) ?_
              refine v_zret rfl rfl (by decide) ?_
              refine bk_inl ?_
              refine v_if_eq_f (t := 136) rfl (by decide) (by decide) ?_
              refine q_aload_n rfl rfl ?_
              have h_629 := wv_bd (b := F) (r := (nx F e1 a)) (l := (ln F e1 (nx F e1 a))) (fun j h1 h2 => ⟨(ln_in (e := e1) (a := (nx F e1 a)) h1 (by omega)).1, (ln_in (e := e1) (a := (nx F e1 a)) h1 (by omega)).2.1⟩)
              have h_630 := wr8_0 (b := F) (r := (nx F e1 a)) (l := (ln F e1 (nx F e1 a))) (by omega) (fun j h1 h2 => ⟨(ln_in (e := e1) (a := (nx F e1 a)) h1 (by omega)).1, (ln_in (e := e1) (a := (nx F e1 a)) h1 (by omega)).2.1⟩) (by omega)
              refine v_cv rfl rfl rfl rfl (by decide) ⟨⟨rfl, rfl⟩, by decide, rfl⟩ (Nat.le_of_ble_eq_true rfl) (Nat.le_of_ble_eq_true rfl) (f_157 (e1 := e1) (a9 := (nx F e1 a)) (B := H) (r8 := (nx F e1 a)) (L8 := (ln F e1 (nx F e1 a))) (W8 := (wv F (nx F e1 a) (ln F e1 (nx F e1 a)))) hI_625 ((hid kn_628)) ((h_627)) (fun j => ((hF_626 43 j (fun h => absurd h.1 (nn rfl))).trans (hFc 43 j (fun q => q.elim (fun h => absurd h.1 (nn rfl)) (fun q => q.elim (fun h => absurd h.1 (nn rfl)) (fun q => q.elim (fun h => absurd h.1 (nn rfl)) (fun q => q.elim (fun h => absurd h.1 (nn rfl)) (fun q => q.elim (fun h => absurd h.1 (nn rfl)) (fun q => q.elim (fun h => absurd h.1 (nn rfl)) (fun q => q.elim (fun h => absurd h.1 (nn rfl)) (fun q => q.elim (fun h => absurd h (nn rfl)) (fun q => q.elim (fun h => absurd h (nn rfl)) (fun h => absurd h (nn rfl))))))))))))).trans (hH j)) ((nx_tr hU (by omega) (by omega)).trans ((nx_z (by omega)))) ((ln_tr hU (by omega) (by omega)).trans (rfl)) ((wv_tr hU (by omega) (by omega) (fun j h1 h2 => ⟨(ln_in (e := e1) (a := (nx F e1 a)) h1 (by omega)).1, (ln_in (e := e1) (a := (nx F e1 a)) h1 (by omega)).2.1⟩)).trans (rfl)) (fun c_631 hI_632 hF_633 hz_634 => ?_))
              refine bk_inl ?_
              refine q_istore_n rfl (by decide) ?_
              refine q_iload_n rfl rfl ?_
              refine q_call rfl rfl rfl rfl ?_
              refine q_iload_n rfl rfl ?_
              refine q_ldc_s rfl rfl rfl (by decide) ?_
              refine q_call rfl rfl rfl rfl (s_158_16 ?_)
              refine bk_inl ?_
              refine v_ic_eq_t (t := 36) rfl (by decide) (by omega) ?_
              refine q_iconst rfl ?_
              refine q_goto (t := 41) rfl (by decide) ?_
              refine v_zret rfl rfl (by decide) ?_
              refine bk_inl ?_
              refine v_if_ne_t (t := 82) rfl (by decide) (by decide) ?_
              refine q_iload_n rfl rfl ?_
              refine v_bip rfl (by decide) ?_
              refine v_ic_eq_f (t := 96) rfl (by decide) (by omega) ?_
              refine q_aload_n rfl rfl ?_
              refine q_iload_n rfl rfl ?_
              refine v_cv rfl rfl rfl rfl (by decide) ⟨⟨rfl, rfl⟩, by decide, rfl⟩ (Nat.le_of_ble_eq_true rfl) (Nat.le_of_ble_eq_true rfl) ?_
              refine q_iload_n rfl rfl ?_
              refine q_ldc_s rfl rfl rfl (by decide) ?_
              refine q_call rfl rfl rfl rfl (s_158_16 ?_)
              refine bk_inl ?_
              refine v_ic_ne_f (t := 26) rfl (by decide) (by omega) ?_
              refine q_aload_n rfl rfl ?_
              have kn_635 : Hid (c_624 41 16 = jr) := (hF_626 41 16 (fun h => absurd h.2 (ni rfl))).trans (hr_jr)
              have kn_636 : Hid (c_631 41 16 = jr) := (hF_633 41 16 (fun h => absurd h.2 (ni rfl))).trans (hid kn_635)
              refine v_gi (z := 16) (v := jr) rfl rfl rfl (by decide) rfl rfl (hid kn_636) ?_
              refine v_bip rfl (by decide) ?_
              refine v_ic_ne_f (t := 22) rfl (by decide) (by omega) ?_
              refine q_iconst rfl ?_
              refine q_goto (t := 73) rfl (by decide) ?_
              refine v_zret rfl rfl (by decide) ?_
              refine bk_inl ?_
              refine v_if_eq_f (t := 105) rfl (by decide) (by decide) ?_
              refine q_aload_n rfl rfl ?_
              refine q_iconst rfl ?_
              refine q_aload_n rfl rfl ?_
              refine v_gi (z := 4) (v := (nx F e1 a)) rfl rfl rfl (by decide) rfl rfl (hz_634) ?_
              refine v_cv rfl rfl rfl rfl (by decide) ⟨⟨rfl, rfl⟩, by decide, rfl⟩ (Nat.le_of_ble_eq_true rfl) (Nat.le_of_ble_eq_true rfl) ?_
              refine q_aload_n rfl rfl ?_
              have kn_637 : Hid (c_624 41 5 = (-1)) := (hF_626 41 5 (fun h => absurd h.2 (ni rfl))).trans (hc_1)
              have kn_638 : Hid (c_631 41 5 = (-1)) := (hF_633 41 5 (fun h => absurd h.2 (ni rfl))).trans (hid kn_637)
              refine v_gi (z := 5) (v := (-1)) rfl rfl rfl (by decide) rfl rfl (hid kn_638) ?_
              refine q_iconst rfl ?_
              refine v_ic_eq_t (t := 9) rfl (by decide) (by decide) ?_
              refine q_aload_n rfl rfl ?_
              refine q_iload_n rfl rfl ?_
              refine v_pi (z := 5) rfl rfl rfl (by decide) rfl rfl rfl (by decide) ?_
              refine q_aload_n rfl rfl ?_
              refine q_iload_n rfl rfl ?_
              refine v_pi (z := 6) rfl rfl rfl (by decide) rfl rfl rfl (by decide) ?_
              refine q_vret rfl rfl ?_
              refine bk_inl ?_
              refine q_aload_n rfl rfl ?_
              refine v_cv rfl rfl rfl rfl (by decide) ⟨⟨rfl, rfl⟩, by decide, rfl⟩ (Nat.le_of_ble_eq_true rfl) (Nat.le_of_ble_eq_true rfl) ?_
              refine q_aload_n rfl rfl ?_
              refine v_gi (z := 5) (v := (nx F e1 a)) rfl rfl rfl (by decide) rfl rfl ((up_n (by decide)).trans (up_e rfl)) ?_
              refine q_iconst rfl ?_
              refine v_ic_ne_t (t := 12) rfl (by decide) (by omega) ?_
              refine q_iconst rfl ?_
              refine v_zret rfl rfl (by decide) ?_
              refine bk_inl ?_
              refine v_if_ne_f (t := 115) rfl (by decide) (by decide) ?_
              refine q_goto (t := 136) rfl (by decide) ?_
              refine Wp_ls [(0, .ref 41), (1, vi a1)] (lsub_cons rfl (lsub_cons rfl lsub_nil)) ?_
              have hI_639 := iw_41_5 (v := (nx F e1 a)) hI_632 ⟨by omega, by omega⟩
              have hI_640 := iw_41_6 (v := 3) hI_639 ⟨by decide, by decide⟩
              have h_641 : (up (up c_631 41 5 (nx F e1 a)) 41 6 3) 41 5 = (nx F e1 a) := ((up_n (by decide)).trans (up_e rfl))
              have h_642 : (up (up c_631 41 5 (nx F e1 a)) 41 6 3) 41 4 = (nx F e1 a) := ((up_n (by decide)).trans ((up_n (by decide)).trans (hz_634)))
              have h_643 : (up (up c_631 41 5 (nx F e1 a)) 41 6 3) 41 6 = 3 := (up_e rfl)
              have h_644 : (up (up c_631 41 5 (nx F e1 a)) 41 6 3) 41 16 = jr := ((up_n (by decide)).trans ((up_n (by decide)).trans (hid kn_636)))
              have kn_645 : Hid (c_624 41 17 = st) := (hF_626 41 17 (fun h => absurd h.2 (ni rfl))).trans (hr_st)
              have kn_646 : Hid (c_631 41 17 = st) := (hF_633 41 17 (fun h => absurd h.2 (ni rfl))).trans (hid kn_645)
              have h_647 : (up (up c_631 41 5 (nx F e1 a)) 41 6 3) 41 17 = st := ((up_n (by decide)).trans ((up_n (by decide)).trans (hid kn_646)))
              have kn_648 : Hid (c_624 41 18 = si) := (hF_626 41 18 (fun h => absurd h.2 (ni rfl))).trans (hr_si)
              have kn_649 : Hid (c_631 41 18 = si) := (hF_633 41 18 (fun h => absurd h.2 (ni rfl))).trans (hid kn_648)
              have h_650 : (up (up c_631 41 5 (nx F e1 a)) 41 6 3) 41 18 = si := ((up_n (by decide)).trans ((up_n (by decide)).trans (hid kn_649)))
              have kn_651 : Hid (c_624 41 19 = du) := (hF_626 41 19 (fun h => absurd h.2 (ni rfl))).trans (hr_du)
              have kn_652 : Hid (c_631 41 19 = du) := (hF_633 41 19 (fun h => absurd h.2 (ni rfl))).trans (hid kn_651)
              have h_653 : (up (up c_631 41 5 (nx F e1 a)) 41 6 3) 41 19 = du := ((up_n (by decide)).trans ((up_n (by decide)).trans (hid kn_652)))
              exact K (up (up c_631 41 5 (nx F e1 a)) 41 6 3)  hI_640 (fun a j hm => (up_b (Decidable.or_iff_not_imp_left.mpr (fun h1 h2 => hm (Or.inr (Or.inr (Or.inl ⟨Decidable.not_not.mp h1, h2⟩)))))).trans ((up_b (Decidable.or_iff_not_imp_left.mpr (fun h1 h2 => hm (Or.inr (Or.inl ⟨Decidable.not_not.mp h1, h2⟩))))).trans ((hF_633 a j (fun h => hm (Or.inl h))).trans ((hF_626 a j (fun h => hm (Or.inl h))).trans (hFc a j (fun q => q.elim (fun h => hm (Or.inl h)) (fun q => q.elim (fun h => hm (Or.inr (Or.inl h))) (fun q => q.elim (fun h => hm (Or.inr (Or.inr (Or.inl h)))) (fun q => q.elim (fun h => hm (Or.inr (Or.inr (Or.inr (Or.inl h))))) (fun q => q.elim (fun h => hm (Or.inr (Or.inr (Or.inr (Or.inr (Or.inl h)))))) (fun q => q.elim (fun h => hm (Or.inr (Or.inr (Or.inr (Or.inr (Or.inr (Or.inl h))))))) (fun q => q.elim (fun h => hm (Or.inr (Or.inr (Or.inr (Or.inr (Or.inr (Or.inr (Or.inl h)))))))) (fun q => q.elim (fun h => hm (Or.inr (Or.inr (Or.inr (Or.inr (Or.inr (Or.inr (Or.inr (Or.inl h))))))))) (fun q => q.elim (fun h => hm (Or.inr (Or.inr (Or.inr (Or.inr (Or.inr (Or.inr (Or.inr (Or.inr (Or.inl h)))))))))) (fun h => hm (Or.inr (Or.inr (Or.inr (Or.inr (Or.inr (Or.inr (Or.inr (Or.inr (Or.inr h)))))))))))))))))))))))) (by unfold Rt; omega) (by omega)
          by_cases h_654 : (wd8_0 F (nx F e1 a) (ln F e1 (nx F e1 a))) = 1
          · skip
            refine v_tsw_i (t := 43) 1 rfl (by omega) (by decide) rfl (by decide) ?_
            refine q_aload_n rfl rfl ?_
            have kn_655 : Hid (c_27 A 1 = st) := (hF_29 A 1 (fun h => absurd h.1 (np0 hA rfl))).trans (hg_st)
            have kn_656 : Hid (c_78 A 1 = st) := (hF_80 A 1 (fun h => absurd h.1 (np0 hA rfl))).trans (hid kn_655)
            have kn_657 : Hid (c_103 A 1 = st) := (hF_105 A 1 (fun q => q.elim (fun h => absurd h.1 (np0 hA rfl)) (fun q => q.elim (fun h => absurd h.1 (np0 hA rfl)) (fun h => absurd h.1 (np0 hA rfl))))).trans (hid kn_656)
            refine v_gi (z := 1) (v := st) rfl rfl (ck_p0 hA) (by omega) rfl rfl (hid kn_657) ?_
            refine q_iconst rfl ?_
            by_cases h_658 : st ≠ 4
            · refine v_ic_ne_t (t := 55) rfl (by decide) (by omega) ?_
              refine q_iconst rfl ?_
              refine v_zret rfl rfl (by decide) ?_
              refine bk_inl ?_
              refine v_if_eq_t (t := 59) rfl (by decide) (by decide) ?_
              refine q_aload_n rfl rfl ?_
              refine v_cv rfl rfl rfl rfl (by decide) ⟨⟨rfl, rfl⟩, by decide, rfl⟩ (Nat.le_of_ble_eq_true rfl) (Nat.le_of_ble_eq_true rfl) ?_
              refine q_aload_n rfl rfl ?_
              refine v_gi (z := 4) (v := 0) rfl rfl rfl (by decide) rfl rfl (hz_109) ?_
              refine v_if_ne_f (t := 11) rfl (by decide) (by decide) ?_
              refine q_iconst rfl ?_
              refine q_goto (t := 12) rfl (by decide) ?_
              refine v_zret rfl rfl (by decide) ?_
              refine bk_inl ?_
              refine v_if_eq_f (t := 73) rfl (by decide) (by decide) ?_
              refine q_aload_n rfl rfl ?_
              refine q_aload_n rfl rfl ?_
              refine q_iload rfl rfl ?_
              have hw_659 : (wd8_0 F (nx F e1 a) (ln F e1 (nx F e1 a))) = 1 := by omega
              rw [hw_659]
              have kn_660 : Hid (c_27 A 0 = jr) := (hF_29 A 0 (fun h => absurd h.1 (np0 hA rfl))).trans (hg_jr)
              have kn_661 : Hid (c_78 A 0 = jr) := (hF_80 A 0 (fun h => absurd h.1 (np0 hA rfl))).trans (hid kn_660)
              have kn_662 : Hid (c_103 A 0 = jr) := (hF_105 A 0 (fun q => q.elim (fun h => absurd h.1 (np0 hA rfl)) (fun q => q.elim (fun h => absurd h.1 (np0 hA rfl)) (fun h => absurd h.1 (np0 hA rfl))))).trans (hid kn_661)
              have h_663 : c_103 A 0 = jr := (hid kn_662)
              have h_664 : c_103 A 1 = st := (hid kn_657)
              have kn_665 : Hid (c_27 A 2 = si) := (hF_29 A 2 (fun h => absurd h.1 (np0 hA rfl))).trans (hg_si)
              have kn_666 : Hid (c_78 A 2 = si) := (hF_80 A 2 (fun h => absurd h.1 (np0 hA rfl))).trans (hid kn_665)
              have kn_667 : Hid (c_103 A 2 = si) := (hF_105 A 2 (fun q => q.elim (fun h => absurd h.1 (np0 hA rfl)) (fun q => q.elim (fun h => absurd h.1 (np0 hA rfl)) (fun h => absurd h.1 (np0 hA rfl))))).trans (hid kn_666)
              have h_668 : c_103 A 2 = si := (hid kn_667)
              refine v_cv rfl rfl rfl (ck_p0 hA) (by omega) ⟨⟨rfl, rfl⟩, by decide, rfl⟩ (Nat.le_of_ble_eq_true rfl) (Nat.le_of_ble_eq_true rfl) (fn_of (s_33 (a2 := 1) hI_104 hA (show 0 ≤ 1 ∧ 1 ≤ 100 from by omega) (by omega) (by omega) (by omega) (fun c_669 hI_670 hF_671 => ?_)))
              intro hG_672
              refine bk_inl ?_
              refine q_aload_n rfl rfl ?_
              refine q_ldc_s rfl rfl rfl (by decide) ?_
              have h_673 := ir_1_4 hI_670
              refine v_cv rfl rfl rfl rfl (by decide) ⟨⟨rfl, rfl⟩, by decide, rfl⟩ (Nat.le_of_ble_eq_true rfl) (Nat.le_of_ble_eq_true rfl) (fn_of (s_11 hI_670 (q := 9) (nt := 1) (by decide) (by decide) (by decide) (fun c_674 hI_675 hF_676 => ?_)))
              intro hG_677
              refine bk_inl ?_
              refine v_iinc (v := v + 1) rfl rfl (by decide) (by omega) ?_
              refine q_goto (t := 6) rfl (by decide) ?_
              have h_678 := ir_1_4 hI_675
              by_cases h_679 : c_674 1 4 = 0
              · skip
                refine Wp_ls [(0, .ref A), (1, .ref 1), (2, vi (v + 1))] (lsub_cons rfl (lsub_cons rfl (lsub_cons rfl lsub_nil))) ?_
                refine gh_stop (s_34_l (sc := sc) (d := dh + 18) (c := c_674) (Z := fun _ => True) hI_675 hA (fun _ _ _ => trivial) 124 c_674 (v + 1) hI_675 (fun a j hm => rfl) ⟨by omega, by omega⟩ (by omega)) (fun hG_680 => ?_)
                refine q_aload_n rfl rfl ?_
                refine v_cv rfl rfl rfl rfl (by decide) ⟨⟨rfl, rfl⟩, by decide, rfl⟩ (Nat.le_of_ble_eq_true rfl) (Nat.le_of_ble_eq_true rfl) ?_
                refine q_aload_n rfl rfl ?_
                refine v_gi (z := 5) (v := (-1)) rfl rfl rfl (by decide) rfl rfl (hc_1) ?_
                refine q_iconst rfl ?_
                refine v_ic_ne_f (t := 12) rfl (by decide) (by decide) ?_
                refine q_iconst rfl ?_
                refine q_goto (t := 13) rfl (by decide) ?_
                refine v_zret rfl rfl (by decide) ?_
                refine bk_inl ?_
                refine v_if_eq_f (t := 136) rfl (by decide) (by decide) ?_
                refine q_aload_n rfl rfl ?_
                refine v_cv rfl rfl rfl rfl (by decide) ⟨⟨rfl, rfl⟩, by decide, rfl⟩ (Nat.le_of_ble_eq_true rfl) (Nat.le_of_ble_eq_true rfl) ?_
                refine q_aload_n rfl rfl ?_
                have kn_681 : Hid (c2 41 3 = e1) := (hFc 41 3 (fun q => q.elim (fun h => absurd h.2 (ni rfl)) (fun q => q.elim (fun h => absurd h.2 (ni rfl)) (fun q => q.elim (fun h => absurd h.2 (ni rfl)) (fun q => q.elim (fun h => absurd h.2 (ni rfl)) (fun q => q.elim (fun h => absurd h.2 (ni rfl)) (fun q => q.elim (fun h => absurd h.2 (ni rfl)) (fun q => q.elim (fun h => absurd h.2 (ni rfl)) (fun q => q.elim (fun h => absurd h (nn rfl)) (fun q => q.elim (fun h => absurd h (nn rfl)) (fun h => absurd h (nn rfl)))))))))))).trans (hr_e1)
                have h_682 : -2147483648 ≤ (H (nx F e1 a)) ∧ (H (nx F e1 a)) ≤ 2147483647 := by rw [← hH (nx F e1 a)]; exact ir_43 hI (nx F e1 a)
                have h_683 := hU (nx F e1 a) (by omega) (by omega)
                have h_684 := hb_or (b := H) (e := e1) (r := (nx F e1 a))
                have h_685 := hb_bd (b := H) (e := e1) (r := (nx F e1 a)) (lo := -2147483648) (hi := 2147483647) ⟨by omega, by omega⟩ (by decide)
                refine v_cv rfl rfl rfl rfl (by decide) ⟨⟨rfl, rfl⟩, by decide, rfl⟩ (Nat.le_of_ble_eq_true rfl) (Nat.le_of_ble_eq_true rfl) (f_154 (e1 := e1) (a9 := a) (B := H) (r8 := (nx F e1 a)) (r := (hb H e1 (nx F e1 a))) hI2 ((hid kn_681)) ((hr_a)) (fun j => (hFc 43 j (fun q => q.elim (fun h => absurd h.1 (nn rfl)) (fun q => q.elim (fun h => absurd h.1 (nn rfl)) (fun q => q.elim (fun h => absurd h.1 (nn rfl)) (fun q => q.elim (fun h => absurd h.1 (nn rfl)) (fun q => q.elim (fun h => absurd h.1 (nn rfl)) (fun q => q.elim (fun h => absurd h.1 (nn rfl)) (fun q => q.elim (fun h => absurd h.1 (nn rfl)) (fun q => q.elim (fun h => absurd h (nn rfl)) (fun q => q.elim (fun h => absurd h (nn rfl)) (fun h => absurd h (nn rfl)))))))))))).trans (hH j)) ((nx_tr hU (by omega) (by omega)).trans (rfl)) rfl (fun c_686 hI_687 hF_688 h_689 => ?_))
                refine bk_inl ?_
                refine q_pop rfl rfl ?_
                refine q_aload_n rfl rfl ?_
                refine v_gi (z := 4) (v := (nx F e1 a)) rfl rfl rfl (by decide) rfl rfl (h_689) ?_
                refine q_aload_n rfl rfl ?_
                have kn_690 : Hid (c_686 41 3 = e1) := (hF_688 41 3 (fun h => absurd h.2 (ni rfl))).trans (hid kn_681)
                refine v_gi (z := 3) (v := e1) rfl rfl rfl (by decide) rfl rfl (hid kn_690) ?_
                refine v_ic_ge_f (t := 20) rfl (by decide) (by omega) ?_
                refine q_iconst rfl ?_
                refine q_goto (t := 21) rfl (by decide) ?_
                refine v_zret rfl rfl (by decide) ?_
                refine bk_inl ?_
                refine v_if_eq_f (t := 136) rfl (by decide) (by decide) ?_
                refine q_aload_n rfl rfl ?_
                have h_691 := wv_bd (b := F) (r := (nx F e1 a)) (l := (ln F e1 (nx F e1 a))) (fun j h1 h2 => ⟨(ln_in (e := e1) (a := (nx F e1 a)) h1 (by omega)).1, (ln_in (e := e1) (a := (nx F e1 a)) h1 (by omega)).2.1⟩)
                have h_692 := wr8_1 (b := F) (r := (nx F e1 a)) (l := (ln F e1 (nx F e1 a))) (by omega) (fun j h1 h2 => ⟨(ln_in (e := e1) (a := (nx F e1 a)) h1 (by omega)).1, (ln_in (e := e1) (a := (nx F e1 a)) h1 (by omega)).2.1⟩) (by omega)
                refine v_cv rfl rfl rfl rfl (by decide) ⟨⟨rfl, rfl⟩, by decide, rfl⟩ (Nat.le_of_ble_eq_true rfl) (Nat.le_of_ble_eq_true rfl) (f_157 (e1 := e1) (a9 := (nx F e1 a)) (B := H) (r8 := (nx F e1 a)) (L8 := (ln F e1 (nx F e1 a))) (W8 := (wv F (nx F e1 a) (ln F e1 (nx F e1 a)))) hI_687 ((hid kn_690)) ((h_689)) (fun j => ((hF_688 43 j (fun h => absurd h.1 (nn rfl))).trans (hFc 43 j (fun q => q.elim (fun h => absurd h.1 (nn rfl)) (fun q => q.elim (fun h => absurd h.1 (nn rfl)) (fun q => q.elim (fun h => absurd h.1 (nn rfl)) (fun q => q.elim (fun h => absurd h.1 (nn rfl)) (fun q => q.elim (fun h => absurd h.1 (nn rfl)) (fun q => q.elim (fun h => absurd h.1 (nn rfl)) (fun q => q.elim (fun h => absurd h.1 (nn rfl)) (fun q => q.elim (fun h => absurd h (nn rfl)) (fun q => q.elim (fun h => absurd h (nn rfl)) (fun h => absurd h (nn rfl))))))))))))).trans (hH j)) ((nx_tr hU (by omega) (by omega)).trans ((nx_z (by omega)))) ((ln_tr hU (by omega) (by omega)).trans (rfl)) ((wv_tr hU (by omega) (by omega) (fun j h1 h2 => ⟨(ln_in (e := e1) (a := (nx F e1 a)) h1 (by omega)).1, (ln_in (e := e1) (a := (nx F e1 a)) h1 (by omega)).2.1⟩)).trans (rfl)) (fun c_693 hI_694 hF_695 hz_696 => ?_))
                refine bk_inl ?_
                refine q_istore_n rfl (by decide) ?_
                refine q_iload_n rfl rfl ?_
                refine q_call rfl rfl rfl rfl ?_
                refine q_iload_n rfl rfl ?_
                refine q_ldc_s rfl rfl rfl (by decide) ?_
                refine q_call rfl rfl rfl rfl (s_158_16 ?_)
                refine bk_inl ?_
                refine v_ic_eq_f (t := 36) rfl (by decide) (by omega) ?_
                refine q_iload_n rfl rfl ?_
                refine q_ldc_s rfl rfl rfl (by decide) ?_
                refine q_call rfl rfl rfl rfl (s_158_17 ?_)
                refine bk_inl ?_
                refine v_ic_eq_t (t := 36) rfl (by decide) (by omega) ?_
                refine q_iconst rfl ?_
                refine q_goto (t := 41) rfl (by decide) ?_
                refine v_zret rfl rfl (by decide) ?_
                refine bk_inl ?_
                refine v_if_ne_t (t := 82) rfl (by decide) (by decide) ?_
                refine q_iload_n rfl rfl ?_
                refine v_bip rfl (by decide) ?_
                refine v_ic_eq_f (t := 96) rfl (by decide) (by omega) ?_
                refine q_aload_n rfl rfl ?_
                refine q_iload_n rfl rfl ?_
                refine v_cv rfl rfl rfl rfl (by decide) ⟨⟨rfl, rfl⟩, by decide, rfl⟩ (Nat.le_of_ble_eq_true rfl) (Nat.le_of_ble_eq_true rfl) ?_
                refine q_iload_n rfl rfl ?_
                refine q_ldc_s rfl rfl rfl (by decide) ?_
                refine q_call rfl rfl rfl rfl (s_158_16 ?_)
                refine bk_inl ?_
                refine v_ic_ne_t (t := 26) rfl (by decide) (by omega) ?_
                refine q_iload_n rfl rfl ?_
                refine q_ldc_s rfl rfl rfl (by decide) ?_
                refine q_call rfl rfl rfl rfl (s_158_17 ?_)
                refine bk_inl ?_
                refine v_ic_ne_f (t := 51) rfl (by decide) (by omega) ?_
                refine q_aload_n rfl rfl ?_
                have kn_697 : Hid (c_686 41 17 = st) := (hF_688 41 17 (fun h => absurd h.2 (ni rfl))).trans (hr_st)
                have kn_698 : Hid (c_693 41 17 = st) := (hF_695 41 17 (fun h => absurd h.2 (ni rfl))).trans (hid kn_697)
                refine v_gi (z := 17) (v := st) rfl rfl rfl (by decide) rfl rfl (hid kn_698) ?_
                refine q_iconst rfl ?_
                refine v_ic_ne_t (t := 47) rfl (by decide) (by omega) ?_
                refine q_iconst rfl ?_
                refine q_goto (t := 73) rfl (by decide) ?_
                refine v_zret rfl rfl (by decide) ?_
                refine bk_inl ?_
                refine v_if_eq_t (t := 105) rfl (by decide) (by decide) ?_
                refine q_aload_n rfl rfl ?_
                refine v_cv rfl rfl rfl rfl (by decide) ⟨⟨rfl, rfl⟩, by decide, rfl⟩ (Nat.le_of_ble_eq_true rfl) (Nat.le_of_ble_eq_true rfl) ?_
                refine q_aload_n rfl rfl ?_
                have kn_699 : Hid (c_686 41 5 = (-1)) := (hF_688 41 5 (fun h => absurd h.2 (ni rfl))).trans (hc_1)
                have kn_700 : Hid (c_693 41 5 = (-1)) := (hF_695 41 5 (fun h => absurd h.2 (ni rfl))).trans (hid kn_699)
                refine v_gi (z := 5) (v := (-1)) rfl rfl rfl (by decide) rfl rfl (hid kn_700) ?_
                refine q_iconst rfl ?_
                refine v_ic_ne_f (t := 12) rfl (by decide) (by decide) ?_
                refine q_iconst rfl ?_
                refine q_goto (t := 13) rfl (by decide) ?_
                refine v_zret rfl rfl (by decide) ?_
                refine bk_inl ?_
                refine v_if_ne_t (t := 115) rfl (by decide) (by decide) ?_
                refine q_aload_n rfl rfl ?_
                have kn_701 : Hid (c_693 41 3 = e1) := (hF_695 41 3 (fun h => absurd h.2 (ni rfl))).trans (hid kn_690)
                refine v_cv rfl rfl rfl rfl (by decide) ⟨⟨rfl, rfl⟩, by decide, rfl⟩ (Nat.le_of_ble_eq_true rfl) (Nat.le_of_ble_eq_true rfl) (f_159 (e1 := e1) (a9 := (nx F e1 a)) (B := H) (L8 := (ln F e1 (nx F e1 a))) hI_694 ((hid kn_701)) ((hz_696)) (fun j => ((hF_695 43 j (fun h => absurd h.1 (nn rfl))).trans ((hF_688 43 j (fun h => absurd h.1 (nn rfl))).trans (hFc 43 j (fun q => q.elim (fun h => absurd h.1 (nn rfl)) (fun q => q.elim (fun h => absurd h.1 (nn rfl)) (fun q => q.elim (fun h => absurd h.1 (nn rfl)) (fun q => q.elim (fun h => absurd h.1 (nn rfl)) (fun q => q.elim (fun h => absurd h.1 (nn rfl)) (fun q => q.elim (fun h => absurd h.1 (nn rfl)) (fun q => q.elim (fun h => absurd h.1 (nn rfl)) (fun q => q.elim (fun h => absurd h (nn rfl)) (fun q => q.elim (fun h => absurd h (nn rfl)) (fun h => absurd h (nn rfl)))))))))))))).trans (hH j)) ((ln_tr hU (by omega) (by omega)).trans (rfl)) (fun c_702 hI_703 hF_704 hz_705 => ?_))
                refine bk_inl ?_
                refine q_aload_n rfl rfl ?_
                refine q_iload_n rfl rfl ?_
                have hw_706 : (wv F (nx F e1 a) (ln F e1 (nx F e1 a))) = 20594117 := by omega
                rw [hw_706]
                have kn_707 : Hid (c_103 1 1 = e1) := (hF_105 1 1 (fun q => q.elim (fun h => absurd h.2 (ni rfl)) (fun q => q.elim (fun h => absurd h.2 (ni rfl)) (fun h => absurd h.2 (ni rfl))))).trans (hid kn_82)
                have kn_708 : Hid (c_702 41 3 = e1) := (hF_704 41 3 (fun h => absurd h.2 (ni rfl))).trans (hid kn_701)
                have kn_709 : Hid (c_686 41 16 = jr) := (hF_688 41 16 (fun h => absurd h.2 (ni rfl))).trans (hr_jr)
                have kn_710 : Hid (c_693 41 16 = jr) := (hF_695 41 16 (fun h => absurd h.2 (ni rfl))).trans (hid kn_709)
                have kn_711 : Hid (c_702 41 16 = jr) := (hF_704 41 16 (fun h => absurd h.2 (ni rfl))).trans (hid kn_710)
                have kn_712 : Hid (c_702 41 17 = st) := (hF_704 41 17 (fun h => absurd h.2 (ni rfl))).trans (hid kn_698)
                have kn_713 : Hid (c_686 41 18 = si) := (hF_688 41 18 (fun h => absurd h.2 (ni rfl))).trans (hr_si)
                have kn_714 : Hid (c_693 41 18 = si) := (hF_695 41 18 (fun h => absurd h.2 (ni rfl))).trans (hid kn_713)
                have kn_715 : Hid (c_702 41 18 = si) := (hF_704 41 18 (fun h => absurd h.2 (ni rfl))).trans (hid kn_714)
                have kn_716 : Hid (c_27 A 3 = du) := (hF_29 A 3 (fun h => absurd h.1 (np0 hA rfl))).trans (hg_du)
                have kn_717 : Hid (c_78 A 3 = du) := (hF_80 A 3 (fun h => absurd h.1 (np0 hA rfl))).trans (hid kn_716)
                have kn_718 : Hid (c_103 A 3 = du) := (hF_105 A 3 (fun q => q.elim (fun h => absurd h.1 (np0 hA rfl)) (fun q => q.elim (fun h => absurd h.1 (np0 hA rfl)) (fun h => absurd h.1 (np0 hA rfl))))).trans (hid kn_717)
                have kn_719 : Hid (c_686 41 19 = du) := (hF_688 41 19 (fun h => absurd h.2 (ni rfl))).trans (hr_du)
                have kn_720 : Hid (c_693 41 19 = du) := (hF_695 41 19 (fun h => absurd h.2 (ni rfl))).trans (hid kn_719)
                have kn_721 : Hid (c_702 41 19 = du) := (hF_704 41 19 (fun h => absurd h.2 (ni rfl))).trans (hid kn_720)
                have h_722 : c_103 1 4 = 0 := (hz_109)
                have h_723 : c_103 1 2 = (ln F e1 (nx F e1 a)) := (hz_108)
                have h_724 : c_103 1 5 = (-1) := (hz_110)
                have kn_725 : Hid (c_702 41 5 = (-1)) := (hF_704 41 5 (fun h => absurd h.2 (ni rfl))).trans (hid kn_700)
                have h_726 : c_702 41 5 = (-1) := (hid kn_725)
                have h_727 : c_702 41 4 = (ln F e1 (nx F e1 a)) := (hz_705)
                have h_728 := ir_41_6 hI2
                have kn_729 : Hid (c_686 41 6 = c2 41 6) := hF_688 41 6 (fun h => absurd h.2 (ni rfl))
                have kn_730 : Hid (c_693 41 6 = c2 41 6) := (hF_695 41 6 (fun h => absurd h.2 (ni rfl))).trans (hid kn_729)
                have kn_731 : Hid (c_702 41 6 = c2 41 6) := (hF_704 41 6 (fun h => absurd h.2 (ni rfl))).trans (hid kn_730)
                have h_732 : c_702 41 6 = c2 41 6 := (hid kn_731)
                refine v_cv rfl rfl rfl rfl (by decide) ⟨⟨rfl, rfl⟩, by decide, rfl⟩ (Nat.le_of_ble_eq_true rfl) (Nat.le_of_ble_eq_true rfl) (L_33_1 (m := c_103) (e1 := e1) (jr := jr) (st := st) (si := si) (du := du) (F := F) (H := H) hI_703 hI_104 hI_670 hA (by omega) ((hid kn_707)) ((hid kn_708)) ((hid kn_662)) ((hid kn_711)) ((hid kn_657)) ((hid kn_712)) ((hid kn_667)) ((hid kn_715)) ((hid kn_718)) ((hid kn_721)) (fun j => ((hF_105 2 j (fun q => q.elim (fun h => absurd h.1 (nn rfl)) (fun q => q.elim (fun h => absurd h.1 (nn rfl)) (fun h => absurd h.1 (nn rfl))))).trans ((hF_80 2 j (fun h => absurd h.1 (nn rfl))).trans ((hF_29 2 j (fun h => absurd h.1 (nn rfl))).trans (hFm 2 j (fun q => q.elim (fun h => absurd h.1 (nn rfl)) (fun q => q.elim (fun h => absurd h.1 (nn rfl)) (fun q => q.elim (fun h => absurd h.1 (nn rfl)) (fun q => q.elim (fun h => absurd h.1 (pn0 hA rfl)) (fun q => q.elim (fun h => absurd h.1 (pn0 hA rfl)) (fun q => q.elim (fun h => absurd h.1 (pn0 hA rfl)) (fun q => q.elim (fun h => absurd h.1 (pn0 hA rfl)) (fun q => q.elim (fun h => absurd h (pn hA rfl rfl)) (fun q => q.elim (fun h => absurd h (pn hA rfl rfl)) (fun q => q.elim (fun h => absurd h (pn hA rfl rfl)) (fun q => q.elim (fun h => absurd h.1 (pn0 hA rfl)) (fun q => q.elim (fun h => absurd h.1 (pn0 hA rfl)) (fun q => q.elim (fun h => absurd h (pn hA rfl rfl)) (fun h => absurd h.1 (pn hA rfl rfl))))))))))))))))))).trans (hF j)) (fun j => ((hF_704 43 j (fun h => absurd h.1 (nn rfl))).trans ((hF_695 43 j (fun h => absurd h.1 (nn rfl))).trans ((hF_688 43 j (fun h => absurd h.1 (nn rfl))).trans (hFc 43 j (fun q => q.elim (fun h => absurd h.1 (nn rfl)) (fun q => q.elim (fun h => absurd h.1 (nn rfl)) (fun q => q.elim (fun h => absurd h.1 (nn rfl)) (fun q => q.elim (fun h => absurd h.1 (nn rfl)) (fun q => q.elim (fun h => absurd h.1 (nn rfl)) (fun q => q.elim (fun h => absurd h.1 (nn rfl)) (fun q => q.elim (fun h => absurd h.1 (nn rfl)) (fun q => q.elim (fun h => absurd h (nn rfl)) (fun q => q.elim (fun h => absurd h (nn rfl)) (fun h => absurd h (nn rfl))))))))))))))).trans (hH j)) hU (by unfold Rt; omega) hG_672 (fun c_733 hI_734 hF_735 hR_737 h_738 h_739 h_740 h_741 => ?_))
                refine bk_inl ?_
                have h_742 := ir_41_16 hI_734
                have h_743 := ir_p0_0 hI_670 hA
                have h_744 := ir_41_17 hI_734
                have h_745 := ir_p0_1 hI_670 hA
                have h_746 := ir_41_18 hI_734
                have h_747 := ir_p0_2 hI_670 hA
                have h_748 := ir_41_19 hI_734
                have h_749 := ir_p0_3 hI_670 hA
                refine q_aload_n rfl rfl ?_
                refine v_bip rfl (by decide) ?_
                have kn_750 : Hid (c_669 1 1 = e1) := (hF_671 1 1 (fun q => q.elim (fun h => absurd h.2 (ni rfl)) (fun q => q.elim (fun h => absurd h.2 (ni rfl)) (fun q => q.elim (fun h => absurd h.2 (ni rfl)) (fun q => q.elim (fun h => absurd h.1 (pn0 hA rfl)) (fun q => q.elim (fun h => absurd h.1 (pn0 hA rfl)) (fun q => q.elim (fun h => absurd h.1 (pn0 hA rfl)) (fun q => q.elim (fun h => absurd h.1 (pn0 hA rfl)) (fun q => q.elim (fun h => absurd h (pn hA rfl rfl)) (fun q => q.elim (fun h => absurd h (pn hA rfl rfl)) (fun h => absurd h (pn hA rfl rfl)))))))))))).trans (hid kn_707)
                have kn_751 : Hid (c_733 41 3 = e1) := (hF_735 41 3 (fun q => q.elim (fun h => absurd h.2 (ni rfl)) (fun q => q.elim (fun h => absurd h.2 (ni rfl)) (fun q => q.elim (fun h => absurd h.2 (ni rfl)) (fun q => q.elim (fun h => absurd h.2 (ni rfl)) (fun q => q.elim (fun h => absurd h.2 (ni rfl)) (fun q => q.elim (fun h => absurd h.2 (ni rfl)) (fun q => q.elim (fun h => absurd h.2 (ni rfl)) (fun q => q.elim (fun h => absurd h (nn rfl)) (fun q => q.elim (fun h => absurd h (nn rfl)) (fun h => absurd h (nn rfl)))))))))))).trans (hid kn_708)
                have h_752 := ir_1_2 hI_670
                refine v_cv rfl rfl rfl rfl (by decide) ⟨⟨rfl, rfl⟩, by decide, rfl⟩ (Nat.le_of_ble_eq_true rfl) (Nat.le_of_ble_eq_true rfl) (L_11_9 (m := c_669) (e1 := e1) (a9 := c_669 1 2) (F := F) (H := H) hI_734 hI_670 hI_675 ((hid kn_750)) ((hid kn_751)) (rfl) (fun j => ((hF_671 2 j (fun q => q.elim (fun h => absurd h.1 (nn rfl)) (fun q => q.elim (fun h => absurd h.1 (nn rfl)) (fun q => q.elim (fun h => absurd h.1 (nn rfl)) (fun q => q.elim (fun h => absurd h.1 (pn0 hA rfl)) (fun q => q.elim (fun h => absurd h.1 (pn0 hA rfl)) (fun q => q.elim (fun h => absurd h.1 (pn0 hA rfl)) (fun q => q.elim (fun h => absurd h.1 (pn0 hA rfl)) (fun q => q.elim (fun h => absurd h (pn hA rfl rfl)) (fun q => q.elim (fun h => absurd h (pn hA rfl rfl)) (fun h => absurd h (pn hA rfl rfl)))))))))))).trans ((hF_105 2 j (fun q => q.elim (fun h => absurd h.1 (nn rfl)) (fun q => q.elim (fun h => absurd h.1 (nn rfl)) (fun h => absurd h.1 (nn rfl))))).trans ((hF_80 2 j (fun h => absurd h.1 (nn rfl))).trans ((hF_29 2 j (fun h => absurd h.1 (nn rfl))).trans (hFm 2 j (fun q => q.elim (fun h => absurd h.1 (nn rfl)) (fun q => q.elim (fun h => absurd h.1 (nn rfl)) (fun q => q.elim (fun h => absurd h.1 (nn rfl)) (fun q => q.elim (fun h => absurd h.1 (pn0 hA rfl)) (fun q => q.elim (fun h => absurd h.1 (pn0 hA rfl)) (fun q => q.elim (fun h => absurd h.1 (pn0 hA rfl)) (fun q => q.elim (fun h => absurd h.1 (pn0 hA rfl)) (fun q => q.elim (fun h => absurd h (pn hA rfl rfl)) (fun q => q.elim (fun h => absurd h (pn hA rfl rfl)) (fun q => q.elim (fun h => absurd h (pn hA rfl rfl)) (fun q => q.elim (fun h => absurd h.1 (pn0 hA rfl)) (fun q => q.elim (fun h => absurd h.1 (pn0 hA rfl)) (fun q => q.elim (fun h => absurd h (pn hA rfl rfl)) (fun h => absurd h.1 (pn hA rfl rfl)))))))))))))))))))).trans (hF j)) (fun j => ((hF_735 43 j (fun q => q.elim (fun h => absurd h.1 (nn rfl)) (fun q => q.elim (fun h => absurd h.1 (nn rfl)) (fun q => q.elim (fun h => absurd h.1 (nn rfl)) (fun q => q.elim (fun h => absurd h.1 (nn rfl)) (fun q => q.elim (fun h => absurd h.1 (nn rfl)) (fun q => q.elim (fun h => absurd h.1 (nn rfl)) (fun q => q.elim (fun h => absurd h.1 (nn rfl)) (fun q => q.elim (fun h => absurd h (nn rfl)) (fun q => q.elim (fun h => absurd h (nn rfl)) (fun h => absurd h (nn rfl)))))))))))).trans ((hF_704 43 j (fun h => absurd h.1 (nn rfl))).trans ((hF_695 43 j (fun h => absurd h.1 (nn rfl))).trans ((hF_688 43 j (fun h => absurd h.1 (nn rfl))).trans (hFc 43 j (fun q => q.elim (fun h => absurd h.1 (nn rfl)) (fun q => q.elim (fun h => absurd h.1 (nn rfl)) (fun q => q.elim (fun h => absurd h.1 (nn rfl)) (fun q => q.elim (fun h => absurd h.1 (nn rfl)) (fun q => q.elim (fun h => absurd h.1 (nn rfl)) (fun q => q.elim (fun h => absurd h.1 (nn rfl)) (fun q => q.elim (fun h => absurd h.1 (nn rfl)) (fun q => q.elim (fun h => absurd h (nn rfl)) (fun q => q.elim (fun h => absurd h (nn rfl)) (fun h => absurd h (nn rfl)))))))))))))))).trans (hH j)) hU hR_737 hG_677 (fun c_753 hI_754 hF_755 hR_757 h_758 => ?_))
                refine bk_inl ?_
                have h_759 := ir_1_2 hI_675
                refine v_iinc (v := v + 1) rfl rfl (by decide) (by omega) ?_
                refine q_goto (t := 44) rfl (by decide) ?_
                refine Wp_ls [(0, .ref 41), (1, vi a1), (2, vi (v + 1))] (lsub_cons rfl (lsub_cons rfl (lsub_cons rfl lsub_nil))) ?_
                have h_760 := ir_41_4 hI_754
                have h_761 := ir_1_5 hI_675
                have h_762 := ir_41_5 hI_754
                have h_763 := ir_41_6 hI_754
                have h_764 := rt_ok hR_757 (by omega)
                have hro_hR_757 := rt_ok hR_757 (by omega)
                have kn_765 : Hid (c_674 A 0 = c_669 A 0) := hF_676 A 0 (fun q => q.elim (fun h => absurd h.1 (np0 hA rfl)) (fun q => q.elim (fun h => absurd h.1 (np0 hA rfl)) (fun h => absurd h.1 (np0 hA rfl))))
                have kn_766 : Hid (c_753 41 16 = c_733 41 16) := hF_755 41 16 (fun q => q.elim (fun h => absurd h.2 (ni rfl)) (fun q => q.elim (fun h => absurd h.2 (ni rfl)) (fun h => absurd h.2 (ni rfl))))
                have kn_767 : Hid (c_674 A 1 = c_669 A 1) := hF_676 A 1 (fun q => q.elim (fun h => absurd h.1 (np0 hA rfl)) (fun q => q.elim (fun h => absurd h.1 (np0 hA rfl)) (fun h => absurd h.1 (np0 hA rfl))))
                have kn_768 : Hid (c_753 41 17 = c_733 41 17) := hF_755 41 17 (fun q => q.elim (fun h => absurd h.2 (ni rfl)) (fun q => q.elim (fun h => absurd h.2 (ni rfl)) (fun h => absurd h.2 (ni rfl))))
                have kn_769 : Hid (c_674 A 2 = c_669 A 2) := hF_676 A 2 (fun q => q.elim (fun h => absurd h.1 (np0 hA rfl)) (fun q => q.elim (fun h => absurd h.1 (np0 hA rfl)) (fun h => absurd h.1 (np0 hA rfl))))
                have kn_770 : Hid (c_753 41 18 = c_733 41 18) := hF_755 41 18 (fun q => q.elim (fun h => absurd h.2 (ni rfl)) (fun q => q.elim (fun h => absurd h.2 (ni rfl)) (fun h => absurd h.2 (ni rfl))))
                have kn_771 : Hid (c_674 A 3 = c_669 A 3) := hF_676 A 3 (fun q => q.elim (fun h => absurd h.1 (np0 hA rfl)) (fun q => q.elim (fun h => absurd h.1 (np0 hA rfl)) (fun h => absurd h.1 (np0 hA rfl))))
                have kn_772 : Hid (c_753 41 19 = c_733 41 19) := hF_755 41 19 (fun q => q.elim (fun h => absurd h.2 (ni rfl)) (fun q => q.elim (fun h => absurd h.2 (ni rfl)) (fun h => absurd h.2 (ni rfl))))
                exact ih c_753 c_674 (v + 1) (c_674 1 2) (c_669 A 0) (c_669 A 1) (c_669 A 2) (c_669 A 3) hI_754 (fun a j hm => (hF_755 a j (fun q => q.elim (fun h => hm (Or.inl h)) (fun q => q.elim (fun h => hm (Or.inr (Or.inl h))) (fun h => hm (Or.inr (Or.inr (Or.inl h))))))).trans ((hF_735 a j (fun q => q.elim (fun h => hm (Or.inl h)) (fun q => q.elim (fun h => hm (Or.inr (Or.inl h))) (fun q => q.elim (fun h => hm (Or.inr (Or.inr (Or.inl h)))) (fun q => q.elim (fun h => hm (Or.inr (Or.inr (Or.inr (Or.inl h))))) (fun q => q.elim (fun h => hm (Or.inr (Or.inr (Or.inr (Or.inr (Or.inl h)))))) (fun q => q.elim (fun h => hm (Or.inr (Or.inr (Or.inr (Or.inr (Or.inr (Or.inl h))))))) (fun q => q.elim (fun h => hm (Or.inr (Or.inr (Or.inr (Or.inr (Or.inr (Or.inr (Or.inl h)))))))) (fun q => q.elim (fun h => hm (Or.inr (Or.inr (Or.inr (Or.inr (Or.inr (Or.inr (Or.inr (Or.inl h))))))))) (fun q => q.elim (fun h => hm (Or.inr (Or.inr (Or.inr (Or.inr (Or.inr (Or.inr (Or.inr (Or.inr (Or.inl h)))))))))) (fun h => hm (Or.inr (Or.inr (Or.inr (Or.inr (Or.inr (Or.inr (Or.inr (Or.inr (Or.inr h)))))))))))))))))))).trans ((hF_704 a j (fun h => hm (Or.inl h))).trans ((hF_695 a j (fun h => hm (Or.inl h))).trans ((hF_688 a j (fun h => hm (Or.inl h))).trans (hFc a j (fun q => q.elim (fun h => hm (Or.inl h)) (fun q => q.elim (fun h => hm (Or.inr (Or.inl h))) (fun q => q.elim (fun h => hm (Or.inr (Or.inr (Or.inl h)))) (fun q => q.elim (fun h => hm (Or.inr (Or.inr (Or.inr (Or.inl h))))) (fun q => q.elim (fun h => hm (Or.inr (Or.inr (Or.inr (Or.inr (Or.inl h)))))) (fun q => q.elim (fun h => hm (Or.inr (Or.inr (Or.inr (Or.inr (Or.inr (Or.inl h))))))) (fun q => q.elim (fun h => hm (Or.inr (Or.inr (Or.inr (Or.inr (Or.inr (Or.inr (Or.inl h)))))))) (fun q => q.elim (fun h => hm (Or.inr (Or.inr (Or.inr (Or.inr (Or.inr (Or.inr (Or.inr (Or.inl h))))))))) (fun q => q.elim (fun h => hm (Or.inr (Or.inr (Or.inr (Or.inr (Or.inr (Or.inr (Or.inr (Or.inr (Or.inl h)))))))))) (fun h => hm (Or.inr (Or.inr (Or.inr (Or.inr (Or.inr (Or.inr (Or.inr (Or.inr (Or.inr h))))))))))))))))))))))))) hI_675 (fun a j hm => (hF_676 a j (fun q => q.elim (fun h => hm (Or.inl h)) (fun q => q.elim (fun h => hm (Or.inr (Or.inl h))) (fun h => hm (Or.inr (Or.inr (Or.inl h))))))).trans ((hF_671 a j (fun q => q.elim (fun h => hm (Or.inl h)) (fun q => q.elim (fun h => hm (Or.inr (Or.inl h))) (fun q => q.elim (fun h => hm (Or.inr (Or.inr (Or.inl h)))) (fun q => q.elim (fun h => hm (Or.inr (Or.inr (Or.inr (Or.inl h))))) (fun q => q.elim (fun h => hm (Or.inr (Or.inr (Or.inr (Or.inr (Or.inl h)))))) (fun q => q.elim (fun h => hm (Or.inr (Or.inr (Or.inr (Or.inr (Or.inr (Or.inl h))))))) (fun q => q.elim (fun h => hm (Or.inr (Or.inr (Or.inr (Or.inr (Or.inr (Or.inr (Or.inl h)))))))) (fun q => q.elim (fun h => hm (Or.inr (Or.inr (Or.inr (Or.inr (Or.inr (Or.inr (Or.inr (Or.inl h))))))))) (fun q => q.elim (fun h => hm (Or.inr (Or.inr (Or.inr (Or.inr (Or.inr (Or.inr (Or.inr (Or.inr (Or.inl h)))))))))) (fun h => hm (Or.inr (Or.inr (Or.inr (Or.inr (Or.inr (Or.inr (Or.inr (Or.inr (Or.inr (Or.inl h))))))))))))))))))))).trans ((hF_105 a j (fun q => q.elim (fun h => hm (Or.inl h)) (fun q => q.elim (fun h => hm (Or.inr (Or.inl h))) (fun h => hm (Or.inr (Or.inr (Or.inl h))))))).trans ((hF_80 a j (fun h => hm (Or.inl h))).trans ((hF_29 a j (fun h => hm (Or.inl h))).trans (hFm a j (fun q => q.elim (fun h => hm (Or.inl h)) (fun q => q.elim (fun h => hm (Or.inr (Or.inl h))) (fun q => q.elim (fun h => hm (Or.inr (Or.inr (Or.inl h)))) (fun q => q.elim (fun h => hm (Or.inr (Or.inr (Or.inr (Or.inl h))))) (fun q => q.elim (fun h => hm (Or.inr (Or.inr (Or.inr (Or.inr (Or.inl h)))))) (fun q => q.elim (fun h => hm (Or.inr (Or.inr (Or.inr (Or.inr (Or.inr (Or.inl h))))))) (fun q => q.elim (fun h => hm (Or.inr (Or.inr (Or.inr (Or.inr (Or.inr (Or.inr (Or.inl h)))))))) (fun q => q.elim (fun h => hm (Or.inr (Or.inr (Or.inr (Or.inr (Or.inr (Or.inr (Or.inr (Or.inl h))))))))) (fun q => q.elim (fun h => hm (Or.inr (Or.inr (Or.inr (Or.inr (Or.inr (Or.inr (Or.inr (Or.inr (Or.inl h)))))))))) (fun q => q.elim (fun h => hm (Or.inr (Or.inr (Or.inr (Or.inr (Or.inr (Or.inr (Or.inr (Or.inr (Or.inr (Or.inl h))))))))))) (fun q => q.elim (fun h => hm (Or.inr (Or.inr (Or.inr (Or.inr (Or.inr (Or.inr (Or.inr (Or.inr (Or.inr (Or.inr (Or.inl h)))))))))))) (fun q => q.elim (fun h => hm (Or.inr (Or.inr (Or.inr (Or.inr (Or.inr (Or.inr (Or.inr (Or.inr (Or.inr (Or.inr (Or.inr (Or.inl h))))))))))))) (fun q => q.elim (fun h => hm (Or.inr (Or.inr (Or.inr (Or.inr (Or.inr (Or.inr (Or.inr (Or.inr (Or.inr (Or.inr (Or.inr (Or.inr (Or.inl h)))))))))))))) (fun h => hm (Or.inr (Or.inr (Or.inr (Or.inr (Or.inr (Or.inr (Or.inr (Or.inr (Or.inr (Or.inr (Or.inr (Or.inr (Or.inr h))))))))))))))))))))))))))))))))) ⟨by omega, by omega⟩ ⟨by omega, by omega⟩ ⟨by omega, by omega⟩ ⟨by omega, by omega⟩ ⟨by omega, by omega⟩ ⟨by omega, by omega⟩ (rfl) (hro_hR_757.2.2.1) ((hid kn_765)) ((show _ = c_733 41 16 from (hid kn_766)).trans (by omega)) ((hid kn_767)) ((show _ = c_733 41 17 from (hid kn_768)).trans (by omega)) ((hid kn_769)) ((show _ = c_733 41 18 from (hid kn_770)).trans (by omega)) ((hid kn_771)) ((show _ = c_733 41 19 from (hid kn_772)).trans (by omega)) ((show _ = c_674 1 4 from rfl).trans (by omega)) (hro_hR_757.2.1) ((show _ = c_674 1 5 from rfl).trans (by omega)) hG_680 (by omega)
              · skip
                refine q_iload_n rfl rfl ?_
                refine v_bip rfl (by decide) ?_
                refine v_ic_gt_f (t := 85) rfl (by decide) (by omega) ?_
                refine q_aload_n rfl rfl ?_
                refine v_cv rfl rfl rfl rfl (by decide) ⟨⟨rfl, rfl⟩, by decide, rfl⟩ (Nat.le_of_ble_eq_true rfl) (Nat.le_of_ble_eq_true rfl) ?_
                refine q_aload_n rfl rfl ?_
                refine v_cv rfl rfl rfl rfl (by decide) ⟨⟨rfl, rfl⟩, by decide, rfl⟩ (Nat.le_of_ble_eq_true rfl) (Nat.le_of_ble_eq_true rfl) ?_
                refine q_aload_n rfl rfl ?_
                refine v_gi (z := 4) (v := c_674 1 4) rfl rfl rfl (by decide) rfl rfl rfl ?_
                refine v_if_ne_t (t := 11) rfl (by decide) (by omega) ?_
                refine q_iconst rfl ?_
                refine v_zret rfl rfl (by decide) ?_
                refine bk_inl ?_
                refine v_if_eq_t (t := 22) rfl (by decide) (by decide) ?_
                refine q_iconst rfl ?_
                refine v_zret rfl rfl (by decide) ?_
                refine bk_inl ?_
                refine v_if_eq_t (t := 85) rfl (by decide) (by decide) ?_
                refine q_vret rfl rfl ?_
                intro hE_773
                have hW : Wd P Q P P c_674 = Wd P Q P P m9 := (Prod.mk.inj (Prod.mk.inj hE_773).2).1
                have h_774 := ir_1_4 hJ9
                have h_775 : m9 1 4 = c_674 1 4 := wd_fv (z := 4) 4 rfl hW rfl rfl rfl rfl (by decide) rfl ⟨by omega, by omega⟩ ⟨by omega, by omega⟩
                have h_776 := ir_1_2 hI_675
                have h_777 := ir_1_2 hJ9
                have h_778 : m9 1 2 = c_674 1 2 := wd_fv (z := 2) 2 rfl hW rfl rfl rfl rfl (by decide) rfl ⟨by omega, by omega⟩ ⟨by omega, by omega⟩
                have h_779 := ir_1_5 hI_675
                have h_780 := ir_1_5 hJ9
                have h_781 : m9 1 5 = c_674 1 5 := wd_fv (z := 5) 5 rfl hW rfl rfl rfl rfl (by decide) rfl ⟨by omega, by omega⟩ ⟨by omega, by omega⟩
                have h_782 := ir_p0_0 hI_670 hA
                have kn_783 : Hid (c_674 A 0 = c_669 A 0) := hF_676 A 0 (fun q => q.elim (fun h => absurd h.1 (np0 hA rfl)) (fun q => q.elim (fun h => absurd h.1 (np0 hA rfl)) (fun h => absurd h.1 (np0 hA rfl))))
                have h_784 := ir_p0_0 hJ9 hA
                have h_785 : m9 A 0 = c_669 A 0 := wd_fv (z := 0) 0 rfl hW (ck_p0 hA) (ck_p0 hA) rfl rfl (by omega) (hid kn_783) ⟨by omega, by omega⟩ ⟨by omega, by omega⟩
                have h_786 := ir_p0_1 hI_670 hA
                have kn_787 : Hid (c_674 A 1 = c_669 A 1) := hF_676 A 1 (fun q => q.elim (fun h => absurd h.1 (np0 hA rfl)) (fun q => q.elim (fun h => absurd h.1 (np0 hA rfl)) (fun h => absurd h.1 (np0 hA rfl))))
                have h_788 := ir_p0_1 hJ9 hA
                have h_789 : m9 A 1 = c_669 A 1 := wd_fv (z := 1) 1 rfl hW (ck_p0 hA) (ck_p0 hA) rfl rfl (by omega) (hid kn_787) ⟨by omega, by omega⟩ ⟨by omega, by omega⟩
                have h_790 := ir_p0_2 hI_670 hA
                have kn_791 : Hid (c_674 A 2 = c_669 A 2) := hF_676 A 2 (fun q => q.elim (fun h => absurd h.1 (np0 hA rfl)) (fun q => q.elim (fun h => absurd h.1 (np0 hA rfl)) (fun h => absurd h.1 (np0 hA rfl))))
                have h_792 := ir_p0_2 hJ9 hA
                have h_793 : m9 A 2 = c_669 A 2 := wd_fv (z := 2) 2 rfl hW (ck_p0 hA) (ck_p0 hA) rfl rfl (by omega) (hid kn_791) ⟨by omega, by omega⟩ ⟨by omega, by omega⟩
                have h_794 := ir_p0_3 hI_670 hA
                have kn_795 : Hid (c_674 A 3 = c_669 A 3) := hF_676 A 3 (fun q => q.elim (fun h => absurd h.1 (np0 hA rfl)) (fun q => q.elim (fun h => absurd h.1 (np0 hA rfl)) (fun h => absurd h.1 (np0 hA rfl))))
                have h_796 := ir_p0_3 hJ9 hA
                have h_797 : m9 A 3 = c_669 A 3 := wd_fv (z := 3) 3 rfl hW (ck_p0 hA) (ck_p0 hA) rfl rfl (by omega) (hid kn_795) ⟨by omega, by omega⟩ ⟨by omega, by omega⟩
                refine q_aload_n rfl rfl ?_
                refine v_cv rfl rfl rfl rfl (by decide) ⟨⟨rfl, rfl⟩, by decide, rfl⟩ (Nat.le_of_ble_eq_true rfl) (Nat.le_of_ble_eq_true rfl) ?_
                refine q_aload_n rfl rfl ?_
                refine v_gi (z := 5) (v := (-1)) rfl rfl rfl (by decide) rfl rfl (hc_1) ?_
                refine q_iconst rfl ?_
                refine v_ic_ne_f (t := 12) rfl (by decide) (by decide) ?_
                refine q_iconst rfl ?_
                refine q_goto (t := 13) rfl (by decide) ?_
                refine v_zret rfl rfl (by decide) ?_
                refine bk_inl ?_
                refine v_if_eq_f (t := 136) rfl (by decide) (by decide) ?_
                refine q_aload_n rfl rfl ?_
                refine v_cv rfl rfl rfl rfl (by decide) ⟨⟨rfl, rfl⟩, by decide, rfl⟩ (Nat.le_of_ble_eq_true rfl) (Nat.le_of_ble_eq_true rfl) ?_
                refine q_aload_n rfl rfl ?_
                have kn_798 : Hid (c2 41 3 = e1) := (hFc 41 3 (fun q => q.elim (fun h => absurd h.2 (ni rfl)) (fun q => q.elim (fun h => absurd h.2 (ni rfl)) (fun q => q.elim (fun h => absurd h.2 (ni rfl)) (fun q => q.elim (fun h => absurd h.2 (ni rfl)) (fun q => q.elim (fun h => absurd h.2 (ni rfl)) (fun q => q.elim (fun h => absurd h.2 (ni rfl)) (fun q => q.elim (fun h => absurd h.2 (ni rfl)) (fun q => q.elim (fun h => absurd h (nn rfl)) (fun q => q.elim (fun h => absurd h (nn rfl)) (fun h => absurd h (nn rfl)))))))))))).trans (hr_e1)
                have h_799 : -2147483648 ≤ (H (nx F e1 a)) ∧ (H (nx F e1 a)) ≤ 2147483647 := by rw [← hH (nx F e1 a)]; exact ir_43 hI (nx F e1 a)
                have h_800 := hU (nx F e1 a) (by omega) (by omega)
                have h_801 := hb_or (b := H) (e := e1) (r := (nx F e1 a))
                have h_802 := hb_bd (b := H) (e := e1) (r := (nx F e1 a)) (lo := -2147483648) (hi := 2147483647) ⟨by omega, by omega⟩ (by decide)
                refine v_cv rfl rfl rfl rfl (by decide) ⟨⟨rfl, rfl⟩, by decide, rfl⟩ (Nat.le_of_ble_eq_true rfl) (Nat.le_of_ble_eq_true rfl) (f_154 (e1 := e1) (a9 := a) (B := H) (r8 := (nx F e1 a)) (r := (hb H e1 (nx F e1 a))) hI2 ((hid kn_798)) ((hr_a)) (fun j => (hFc 43 j (fun q => q.elim (fun h => absurd h.1 (nn rfl)) (fun q => q.elim (fun h => absurd h.1 (nn rfl)) (fun q => q.elim (fun h => absurd h.1 (nn rfl)) (fun q => q.elim (fun h => absurd h.1 (nn rfl)) (fun q => q.elim (fun h => absurd h.1 (nn rfl)) (fun q => q.elim (fun h => absurd h.1 (nn rfl)) (fun q => q.elim (fun h => absurd h.1 (nn rfl)) (fun q => q.elim (fun h => absurd h (nn rfl)) (fun q => q.elim (fun h => absurd h (nn rfl)) (fun h => absurd h (nn rfl)))))))))))).trans (hH j)) ((nx_tr hU (by omega) (by omega)).trans (rfl)) rfl (fun c_803 hI_804 hF_805 h_806 => ?_))
                refine bk_inl ?_
                refine q_pop rfl rfl ?_
                refine q_aload_n rfl rfl ?_
                refine v_gi (z := 4) (v := (nx F e1 a)) rfl rfl rfl (by decide) rfl rfl (h_806) ?_
                refine q_aload_n rfl rfl ?_
                have kn_807 : Hid (c_803 41 3 = e1) := (hF_805 41 3 (fun h => absurd h.2 (ni rfl))).trans (hid kn_798)
                refine v_gi (z := 3) (v := e1) rfl rfl rfl (by decide) rfl rfl (hid kn_807) ?_
                refine v_ic_ge_f (t := 20) rfl (by decide) (by omega) ?_
                refine q_iconst rfl ?_
                refine q_goto (t := 21) rfl (by decide) ?_
                refine v_zret rfl rfl (by decide) ?_
                refine bk_inl ?_
                refine v_if_eq_f (t := 136) rfl (by decide) (by decide) ?_
                refine q_aload_n rfl rfl ?_
                have h_808 := wv_bd (b := F) (r := (nx F e1 a)) (l := (ln F e1 (nx F e1 a))) (fun j h1 h2 => ⟨(ln_in (e := e1) (a := (nx F e1 a)) h1 (by omega)).1, (ln_in (e := e1) (a := (nx F e1 a)) h1 (by omega)).2.1⟩)
                have h_809 := wr8_1 (b := F) (r := (nx F e1 a)) (l := (ln F e1 (nx F e1 a))) (by omega) (fun j h1 h2 => ⟨(ln_in (e := e1) (a := (nx F e1 a)) h1 (by omega)).1, (ln_in (e := e1) (a := (nx F e1 a)) h1 (by omega)).2.1⟩) (by omega)
                refine v_cv rfl rfl rfl rfl (by decide) ⟨⟨rfl, rfl⟩, by decide, rfl⟩ (Nat.le_of_ble_eq_true rfl) (Nat.le_of_ble_eq_true rfl) (f_157 (e1 := e1) (a9 := (nx F e1 a)) (B := H) (r8 := (nx F e1 a)) (L8 := (ln F e1 (nx F e1 a))) (W8 := (wv F (nx F e1 a) (ln F e1 (nx F e1 a)))) hI_804 ((hid kn_807)) ((h_806)) (fun j => ((hF_805 43 j (fun h => absurd h.1 (nn rfl))).trans (hFc 43 j (fun q => q.elim (fun h => absurd h.1 (nn rfl)) (fun q => q.elim (fun h => absurd h.1 (nn rfl)) (fun q => q.elim (fun h => absurd h.1 (nn rfl)) (fun q => q.elim (fun h => absurd h.1 (nn rfl)) (fun q => q.elim (fun h => absurd h.1 (nn rfl)) (fun q => q.elim (fun h => absurd h.1 (nn rfl)) (fun q => q.elim (fun h => absurd h.1 (nn rfl)) (fun q => q.elim (fun h => absurd h (nn rfl)) (fun q => q.elim (fun h => absurd h (nn rfl)) (fun h => absurd h (nn rfl))))))))))))).trans (hH j)) ((nx_tr hU (by omega) (by omega)).trans ((nx_z (by omega)))) ((ln_tr hU (by omega) (by omega)).trans (rfl)) ((wv_tr hU (by omega) (by omega) (fun j h1 h2 => ⟨(ln_in (e := e1) (a := (nx F e1 a)) h1 (by omega)).1, (ln_in (e := e1) (a := (nx F e1 a)) h1 (by omega)).2.1⟩)).trans (rfl)) (fun c_810 hI_811 hF_812 hz_813 => ?_))
                refine bk_inl ?_
                refine q_istore_n rfl (by decide) ?_
                refine q_iload_n rfl rfl ?_
                refine q_call rfl rfl rfl rfl ?_
                refine q_iload_n rfl rfl ?_
                refine q_ldc_s rfl rfl rfl (by decide) ?_
                refine q_call rfl rfl rfl rfl (s_158_16 ?_)
                refine bk_inl ?_
                refine v_ic_eq_f (t := 36) rfl (by decide) (by omega) ?_
                refine q_iload_n rfl rfl ?_
                refine q_ldc_s rfl rfl rfl (by decide) ?_
                refine q_call rfl rfl rfl rfl (s_158_17 ?_)
                refine bk_inl ?_
                refine v_ic_eq_t (t := 36) rfl (by decide) (by omega) ?_
                refine q_iconst rfl ?_
                refine q_goto (t := 41) rfl (by decide) ?_
                refine v_zret rfl rfl (by decide) ?_
                refine bk_inl ?_
                refine v_if_ne_t (t := 82) rfl (by decide) (by decide) ?_
                refine q_iload_n rfl rfl ?_
                refine v_bip rfl (by decide) ?_
                refine v_ic_eq_f (t := 96) rfl (by decide) (by omega) ?_
                refine q_aload_n rfl rfl ?_
                refine q_iload_n rfl rfl ?_
                refine v_cv rfl rfl rfl rfl (by decide) ⟨⟨rfl, rfl⟩, by decide, rfl⟩ (Nat.le_of_ble_eq_true rfl) (Nat.le_of_ble_eq_true rfl) ?_
                refine q_iload_n rfl rfl ?_
                refine q_ldc_s rfl rfl rfl (by decide) ?_
                refine q_call rfl rfl rfl rfl (s_158_16 ?_)
                refine bk_inl ?_
                refine v_ic_ne_t (t := 26) rfl (by decide) (by omega) ?_
                refine q_iload_n rfl rfl ?_
                refine q_ldc_s rfl rfl rfl (by decide) ?_
                refine q_call rfl rfl rfl rfl (s_158_17 ?_)
                refine bk_inl ?_
                refine v_ic_ne_f (t := 51) rfl (by decide) (by omega) ?_
                refine q_aload_n rfl rfl ?_
                have kn_814 : Hid (c_803 41 17 = st) := (hF_805 41 17 (fun h => absurd h.2 (ni rfl))).trans (hr_st)
                have kn_815 : Hid (c_810 41 17 = st) := (hF_812 41 17 (fun h => absurd h.2 (ni rfl))).trans (hid kn_814)
                refine v_gi (z := 17) (v := st) rfl rfl rfl (by decide) rfl rfl (hid kn_815) ?_
                refine q_iconst rfl ?_
                refine v_ic_ne_t (t := 47) rfl (by decide) (by omega) ?_
                refine q_iconst rfl ?_
                refine q_goto (t := 73) rfl (by decide) ?_
                refine v_zret rfl rfl (by decide) ?_
                refine bk_inl ?_
                refine v_if_eq_t (t := 105) rfl (by decide) (by decide) ?_
                refine q_aload_n rfl rfl ?_
                refine v_cv rfl rfl rfl rfl (by decide) ⟨⟨rfl, rfl⟩, by decide, rfl⟩ (Nat.le_of_ble_eq_true rfl) (Nat.le_of_ble_eq_true rfl) ?_
                refine q_aload_n rfl rfl ?_
                have kn_816 : Hid (c_803 41 5 = (-1)) := (hF_805 41 5 (fun h => absurd h.2 (ni rfl))).trans (hc_1)
                have kn_817 : Hid (c_810 41 5 = (-1)) := (hF_812 41 5 (fun h => absurd h.2 (ni rfl))).trans (hid kn_816)
                refine v_gi (z := 5) (v := (-1)) rfl rfl rfl (by decide) rfl rfl (hid kn_817) ?_
                refine q_iconst rfl ?_
                refine v_ic_ne_f (t := 12) rfl (by decide) (by decide) ?_
                refine q_iconst rfl ?_
                refine q_goto (t := 13) rfl (by decide) ?_
                refine v_zret rfl rfl (by decide) ?_
                refine bk_inl ?_
                refine v_if_ne_t (t := 115) rfl (by decide) (by decide) ?_
                refine q_aload_n rfl rfl ?_
                have kn_818 : Hid (c_810 41 3 = e1) := (hF_812 41 3 (fun h => absurd h.2 (ni rfl))).trans (hid kn_807)
                refine v_cv rfl rfl rfl rfl (by decide) ⟨⟨rfl, rfl⟩, by decide, rfl⟩ (Nat.le_of_ble_eq_true rfl) (Nat.le_of_ble_eq_true rfl) (f_159 (e1 := e1) (a9 := (nx F e1 a)) (B := H) (L8 := (ln F e1 (nx F e1 a))) hI_811 ((hid kn_818)) ((hz_813)) (fun j => ((hF_812 43 j (fun h => absurd h.1 (nn rfl))).trans ((hF_805 43 j (fun h => absurd h.1 (nn rfl))).trans (hFc 43 j (fun q => q.elim (fun h => absurd h.1 (nn rfl)) (fun q => q.elim (fun h => absurd h.1 (nn rfl)) (fun q => q.elim (fun h => absurd h.1 (nn rfl)) (fun q => q.elim (fun h => absurd h.1 (nn rfl)) (fun q => q.elim (fun h => absurd h.1 (nn rfl)) (fun q => q.elim (fun h => absurd h.1 (nn rfl)) (fun q => q.elim (fun h => absurd h.1 (nn rfl)) (fun q => q.elim (fun h => absurd h (nn rfl)) (fun q => q.elim (fun h => absurd h (nn rfl)) (fun h => absurd h (nn rfl)))))))))))))).trans (hH j)) ((ln_tr hU (by omega) (by omega)).trans (rfl)) (fun c_819 hI_820 hF_821 hz_822 => ?_))
                refine bk_inl ?_
                refine q_aload_n rfl rfl ?_
                refine q_iload_n rfl rfl ?_
                have hw_823 : (wv F (nx F e1 a) (ln F e1 (nx F e1 a))) = 20594117 := by omega
                rw [hw_823]
                have kn_824 : Hid (c_103 1 1 = e1) := (hF_105 1 1 (fun q => q.elim (fun h => absurd h.2 (ni rfl)) (fun q => q.elim (fun h => absurd h.2 (ni rfl)) (fun h => absurd h.2 (ni rfl))))).trans (hid kn_82)
                have kn_825 : Hid (c_819 41 3 = e1) := (hF_821 41 3 (fun h => absurd h.2 (ni rfl))).trans (hid kn_818)
                have kn_826 : Hid (c_803 41 16 = jr) := (hF_805 41 16 (fun h => absurd h.2 (ni rfl))).trans (hr_jr)
                have kn_827 : Hid (c_810 41 16 = jr) := (hF_812 41 16 (fun h => absurd h.2 (ni rfl))).trans (hid kn_826)
                have kn_828 : Hid (c_819 41 16 = jr) := (hF_821 41 16 (fun h => absurd h.2 (ni rfl))).trans (hid kn_827)
                have kn_829 : Hid (c_819 41 17 = st) := (hF_821 41 17 (fun h => absurd h.2 (ni rfl))).trans (hid kn_815)
                have kn_830 : Hid (c_803 41 18 = si) := (hF_805 41 18 (fun h => absurd h.2 (ni rfl))).trans (hr_si)
                have kn_831 : Hid (c_810 41 18 = si) := (hF_812 41 18 (fun h => absurd h.2 (ni rfl))).trans (hid kn_830)
                have kn_832 : Hid (c_819 41 18 = si) := (hF_821 41 18 (fun h => absurd h.2 (ni rfl))).trans (hid kn_831)
                have kn_833 : Hid (c_27 A 3 = du) := (hF_29 A 3 (fun h => absurd h.1 (np0 hA rfl))).trans (hg_du)
                have kn_834 : Hid (c_78 A 3 = du) := (hF_80 A 3 (fun h => absurd h.1 (np0 hA rfl))).trans (hid kn_833)
                have kn_835 : Hid (c_103 A 3 = du) := (hF_105 A 3 (fun q => q.elim (fun h => absurd h.1 (np0 hA rfl)) (fun q => q.elim (fun h => absurd h.1 (np0 hA rfl)) (fun h => absurd h.1 (np0 hA rfl))))).trans (hid kn_834)
                have kn_836 : Hid (c_803 41 19 = du) := (hF_805 41 19 (fun h => absurd h.2 (ni rfl))).trans (hr_du)
                have kn_837 : Hid (c_810 41 19 = du) := (hF_812 41 19 (fun h => absurd h.2 (ni rfl))).trans (hid kn_836)
                have kn_838 : Hid (c_819 41 19 = du) := (hF_821 41 19 (fun h => absurd h.2 (ni rfl))).trans (hid kn_837)
                have h_839 : c_103 1 4 = 0 := (hz_109)
                have h_840 : c_103 1 2 = (ln F e1 (nx F e1 a)) := (hz_108)
                have h_841 : c_103 1 5 = (-1) := (hz_110)
                have kn_842 : Hid (c_819 41 5 = (-1)) := (hF_821 41 5 (fun h => absurd h.2 (ni rfl))).trans (hid kn_817)
                have h_843 : c_819 41 5 = (-1) := (hid kn_842)
                have h_844 : c_819 41 4 = (ln F e1 (nx F e1 a)) := (hz_822)
                have h_845 := ir_41_6 hI2
                have kn_846 : Hid (c_803 41 6 = c2 41 6) := hF_805 41 6 (fun h => absurd h.2 (ni rfl))
                have kn_847 : Hid (c_810 41 6 = c2 41 6) := (hF_812 41 6 (fun h => absurd h.2 (ni rfl))).trans (hid kn_846)
                have kn_848 : Hid (c_819 41 6 = c2 41 6) := (hF_821 41 6 (fun h => absurd h.2 (ni rfl))).trans (hid kn_847)
                have h_849 : c_819 41 6 = c2 41 6 := (hid kn_848)
                refine v_cv rfl rfl rfl rfl (by decide) ⟨⟨rfl, rfl⟩, by decide, rfl⟩ (Nat.le_of_ble_eq_true rfl) (Nat.le_of_ble_eq_true rfl) (L_33_1 (m := c_103) (e1 := e1) (jr := jr) (st := st) (si := si) (du := du) (F := F) (H := H) hI_820 hI_104 hI_670 hA (by omega) ((hid kn_824)) ((hid kn_825)) ((hid kn_662)) ((hid kn_828)) ((hid kn_657)) ((hid kn_829)) ((hid kn_667)) ((hid kn_832)) ((hid kn_835)) ((hid kn_838)) (fun j => ((hF_105 2 j (fun q => q.elim (fun h => absurd h.1 (nn rfl)) (fun q => q.elim (fun h => absurd h.1 (nn rfl)) (fun h => absurd h.1 (nn rfl))))).trans ((hF_80 2 j (fun h => absurd h.1 (nn rfl))).trans ((hF_29 2 j (fun h => absurd h.1 (nn rfl))).trans (hFm 2 j (fun q => q.elim (fun h => absurd h.1 (nn rfl)) (fun q => q.elim (fun h => absurd h.1 (nn rfl)) (fun q => q.elim (fun h => absurd h.1 (nn rfl)) (fun q => q.elim (fun h => absurd h.1 (pn0 hA rfl)) (fun q => q.elim (fun h => absurd h.1 (pn0 hA rfl)) (fun q => q.elim (fun h => absurd h.1 (pn0 hA rfl)) (fun q => q.elim (fun h => absurd h.1 (pn0 hA rfl)) (fun q => q.elim (fun h => absurd h (pn hA rfl rfl)) (fun q => q.elim (fun h => absurd h (pn hA rfl rfl)) (fun q => q.elim (fun h => absurd h (pn hA rfl rfl)) (fun q => q.elim (fun h => absurd h.1 (pn0 hA rfl)) (fun q => q.elim (fun h => absurd h.1 (pn0 hA rfl)) (fun q => q.elim (fun h => absurd h (pn hA rfl rfl)) (fun h => absurd h.1 (pn hA rfl rfl))))))))))))))))))).trans (hF j)) (fun j => ((hF_821 43 j (fun h => absurd h.1 (nn rfl))).trans ((hF_812 43 j (fun h => absurd h.1 (nn rfl))).trans ((hF_805 43 j (fun h => absurd h.1 (nn rfl))).trans (hFc 43 j (fun q => q.elim (fun h => absurd h.1 (nn rfl)) (fun q => q.elim (fun h => absurd h.1 (nn rfl)) (fun q => q.elim (fun h => absurd h.1 (nn rfl)) (fun q => q.elim (fun h => absurd h.1 (nn rfl)) (fun q => q.elim (fun h => absurd h.1 (nn rfl)) (fun q => q.elim (fun h => absurd h.1 (nn rfl)) (fun q => q.elim (fun h => absurd h.1 (nn rfl)) (fun q => q.elim (fun h => absurd h (nn rfl)) (fun q => q.elim (fun h => absurd h (nn rfl)) (fun h => absurd h (nn rfl))))))))))))))).trans (hH j)) hU (by unfold Rt; omega) hG_672 (fun c_850 hI_851 hF_852 hR_854 h_855 h_856 h_857 h_858 => ?_))
                refine bk_inl ?_
                have h_859 := ir_41_16 hI_851
                have h_860 := ir_41_17 hI_851
                have h_861 := ir_41_18 hI_851
                have h_862 := ir_41_19 hI_851
                refine q_aload_n rfl rfl ?_
                refine v_bip rfl (by decide) ?_
                have kn_863 : Hid (c_669 1 1 = e1) := (hF_671 1 1 (fun q => q.elim (fun h => absurd h.2 (ni rfl)) (fun q => q.elim (fun h => absurd h.2 (ni rfl)) (fun q => q.elim (fun h => absurd h.2 (ni rfl)) (fun q => q.elim (fun h => absurd h.1 (pn0 hA rfl)) (fun q => q.elim (fun h => absurd h.1 (pn0 hA rfl)) (fun q => q.elim (fun h => absurd h.1 (pn0 hA rfl)) (fun q => q.elim (fun h => absurd h.1 (pn0 hA rfl)) (fun q => q.elim (fun h => absurd h (pn hA rfl rfl)) (fun q => q.elim (fun h => absurd h (pn hA rfl rfl)) (fun h => absurd h (pn hA rfl rfl)))))))))))).trans (hid kn_824)
                have kn_864 : Hid (c_850 41 3 = e1) := (hF_852 41 3 (fun q => q.elim (fun h => absurd h.2 (ni rfl)) (fun q => q.elim (fun h => absurd h.2 (ni rfl)) (fun q => q.elim (fun h => absurd h.2 (ni rfl)) (fun q => q.elim (fun h => absurd h.2 (ni rfl)) (fun q => q.elim (fun h => absurd h.2 (ni rfl)) (fun q => q.elim (fun h => absurd h.2 (ni rfl)) (fun q => q.elim (fun h => absurd h.2 (ni rfl)) (fun q => q.elim (fun h => absurd h (nn rfl)) (fun q => q.elim (fun h => absurd h (nn rfl)) (fun h => absurd h (nn rfl)))))))))))).trans (hid kn_825)
                have h_865 := ir_1_2 hI_670
                refine v_cv rfl rfl rfl rfl (by decide) ⟨⟨rfl, rfl⟩, by decide, rfl⟩ (Nat.le_of_ble_eq_true rfl) (Nat.le_of_ble_eq_true rfl) (L_11_9 (m := c_669) (e1 := e1) (a9 := c_669 1 2) (F := F) (H := H) hI_851 hI_670 hI_675 ((hid kn_863)) ((hid kn_864)) (rfl) (fun j => ((hF_671 2 j (fun q => q.elim (fun h => absurd h.1 (nn rfl)) (fun q => q.elim (fun h => absurd h.1 (nn rfl)) (fun q => q.elim (fun h => absurd h.1 (nn rfl)) (fun q => q.elim (fun h => absurd h.1 (pn0 hA rfl)) (fun q => q.elim (fun h => absurd h.1 (pn0 hA rfl)) (fun q => q.elim (fun h => absurd h.1 (pn0 hA rfl)) (fun q => q.elim (fun h => absurd h.1 (pn0 hA rfl)) (fun q => q.elim (fun h => absurd h (pn hA rfl rfl)) (fun q => q.elim (fun h => absurd h (pn hA rfl rfl)) (fun h => absurd h (pn hA rfl rfl)))))))))))).trans ((hF_105 2 j (fun q => q.elim (fun h => absurd h.1 (nn rfl)) (fun q => q.elim (fun h => absurd h.1 (nn rfl)) (fun h => absurd h.1 (nn rfl))))).trans ((hF_80 2 j (fun h => absurd h.1 (nn rfl))).trans ((hF_29 2 j (fun h => absurd h.1 (nn rfl))).trans (hFm 2 j (fun q => q.elim (fun h => absurd h.1 (nn rfl)) (fun q => q.elim (fun h => absurd h.1 (nn rfl)) (fun q => q.elim (fun h => absurd h.1 (nn rfl)) (fun q => q.elim (fun h => absurd h.1 (pn0 hA rfl)) (fun q => q.elim (fun h => absurd h.1 (pn0 hA rfl)) (fun q => q.elim (fun h => absurd h.1 (pn0 hA rfl)) (fun q => q.elim (fun h => absurd h.1 (pn0 hA rfl)) (fun q => q.elim (fun h => absurd h (pn hA rfl rfl)) (fun q => q.elim (fun h => absurd h (pn hA rfl rfl)) (fun q => q.elim (fun h => absurd h (pn hA rfl rfl)) (fun q => q.elim (fun h => absurd h.1 (pn0 hA rfl)) (fun q => q.elim (fun h => absurd h.1 (pn0 hA rfl)) (fun q => q.elim (fun h => absurd h (pn hA rfl rfl)) (fun h => absurd h.1 (pn hA rfl rfl)))))))))))))))))))).trans (hF j)) (fun j => ((hF_852 43 j (fun q => q.elim (fun h => absurd h.1 (nn rfl)) (fun q => q.elim (fun h => absurd h.1 (nn rfl)) (fun q => q.elim (fun h => absurd h.1 (nn rfl)) (fun q => q.elim (fun h => absurd h.1 (nn rfl)) (fun q => q.elim (fun h => absurd h.1 (nn rfl)) (fun q => q.elim (fun h => absurd h.1 (nn rfl)) (fun q => q.elim (fun h => absurd h.1 (nn rfl)) (fun q => q.elim (fun h => absurd h (nn rfl)) (fun q => q.elim (fun h => absurd h (nn rfl)) (fun h => absurd h (nn rfl)))))))))))).trans ((hF_821 43 j (fun h => absurd h.1 (nn rfl))).trans ((hF_812 43 j (fun h => absurd h.1 (nn rfl))).trans ((hF_805 43 j (fun h => absurd h.1 (nn rfl))).trans (hFc 43 j (fun q => q.elim (fun h => absurd h.1 (nn rfl)) (fun q => q.elim (fun h => absurd h.1 (nn rfl)) (fun q => q.elim (fun h => absurd h.1 (nn rfl)) (fun q => q.elim (fun h => absurd h.1 (nn rfl)) (fun q => q.elim (fun h => absurd h.1 (nn rfl)) (fun q => q.elim (fun h => absurd h.1 (nn rfl)) (fun q => q.elim (fun h => absurd h.1 (nn rfl)) (fun q => q.elim (fun h => absurd h (nn rfl)) (fun q => q.elim (fun h => absurd h (nn rfl)) (fun h => absurd h (nn rfl)))))))))))))))).trans (hH j)) hU hR_854 hG_677 (fun c_866 hI_867 hF_868 hR_870 h_871 => ?_))
                refine bk_inl ?_
                refine v_iinc (v := v + 1) rfl rfl (by decide) (by omega) ?_
                refine q_goto (t := 44) rfl (by decide) ?_
                refine q_aload_n rfl rfl ?_
                refine v_cv rfl rfl rfl rfl (by decide) ⟨⟨rfl, rfl⟩, by decide, rfl⟩ (Nat.le_of_ble_eq_true rfl) (Nat.le_of_ble_eq_true rfl) ?_
                refine q_aload_n rfl rfl ?_
                have h_872 := ir_41_5 hI_867
                have h_873 := ir_41_4 hI_867
                have h_874 := ir_41_6 hI_867
                have h_875 := rt_bad hR_870 (by omega)
                have hrb_hR_870 := rt_bad hR_870 (by omega)
                refine v_gi (z := 5) (v := c_674 1 5) rfl rfl rfl (by decide) rfl rfl hrb_hR_870.2.1 ?_
                refine q_iconst rfl ?_
                refine v_ic_ne_t (t := 12) rfl (by decide) (by omega) ?_
                refine q_iconst rfl ?_
                refine v_zret rfl rfl (by decide) ?_
                refine bk_inl ?_
                refine v_if_eq_t (t := 136) rfl (by decide) (by decide) ?_
                refine Wp_ls [(0, .ref 41), (1, vi a1)] (lsub_cons rfl (lsub_cons rfl lsub_nil)) ?_
                have h_876 : c_866 41 5 = c_674 1 5 := hrb_hR_870.2.1
                have h_877 : c_866 41 6 = c_674 1 4 := hrb_hR_870.2.2.2
                have kn_878 : Hid (c_866 41 16 = c_850 41 16) := hF_868 41 16 (fun q => q.elim (fun h => absurd h.2 (ni rfl)) (fun q => q.elim (fun h => absurd h.2 (ni rfl)) (fun h => absurd h.2 (ni rfl))))
                have h_879 : c_866 41 16 = c_850 41 16 := (hid kn_878)
                have kn_880 : Hid (c_866 41 17 = c_850 41 17) := hF_868 41 17 (fun q => q.elim (fun h => absurd h.2 (ni rfl)) (fun q => q.elim (fun h => absurd h.2 (ni rfl)) (fun h => absurd h.2 (ni rfl))))
                have h_881 : c_866 41 17 = c_850 41 17 := (hid kn_880)
                have kn_882 : Hid (c_866 41 18 = c_850 41 18) := hF_868 41 18 (fun q => q.elim (fun h => absurd h.2 (ni rfl)) (fun q => q.elim (fun h => absurd h.2 (ni rfl)) (fun h => absurd h.2 (ni rfl))))
                have h_883 : c_866 41 18 = c_850 41 18 := (hid kn_882)
                have kn_884 : Hid (c_866 41 19 = c_850 41 19) := hF_868 41 19 (fun q => q.elim (fun h => absurd h.2 (ni rfl)) (fun q => q.elim (fun h => absurd h.2 (ni rfl)) (fun h => absurd h.2 (ni rfl))))
                have h_885 : c_866 41 19 = c_850 41 19 := (hid kn_884)
                exact K c_866  hI_867 (fun a j hm => (hF_868 a j (fun q => q.elim (fun h => hm (Or.inl h)) (fun q => q.elim (fun h => hm (Or.inr (Or.inl h))) (fun h => hm (Or.inr (Or.inr (Or.inl h))))))).trans ((hF_852 a j (fun q => q.elim (fun h => hm (Or.inl h)) (fun q => q.elim (fun h => hm (Or.inr (Or.inl h))) (fun q => q.elim (fun h => hm (Or.inr (Or.inr (Or.inl h)))) (fun q => q.elim (fun h => hm (Or.inr (Or.inr (Or.inr (Or.inl h))))) (fun q => q.elim (fun h => hm (Or.inr (Or.inr (Or.inr (Or.inr (Or.inl h)))))) (fun q => q.elim (fun h => hm (Or.inr (Or.inr (Or.inr (Or.inr (Or.inr (Or.inl h))))))) (fun q => q.elim (fun h => hm (Or.inr (Or.inr (Or.inr (Or.inr (Or.inr (Or.inr (Or.inl h)))))))) (fun q => q.elim (fun h => hm (Or.inr (Or.inr (Or.inr (Or.inr (Or.inr (Or.inr (Or.inr (Or.inl h))))))))) (fun q => q.elim (fun h => hm (Or.inr (Or.inr (Or.inr (Or.inr (Or.inr (Or.inr (Or.inr (Or.inr (Or.inl h)))))))))) (fun h => hm (Or.inr (Or.inr (Or.inr (Or.inr (Or.inr (Or.inr (Or.inr (Or.inr (Or.inr h)))))))))))))))))))).trans ((hF_821 a j (fun h => hm (Or.inl h))).trans ((hF_812 a j (fun h => hm (Or.inl h))).trans ((hF_805 a j (fun h => hm (Or.inl h))).trans (hFc a j (fun q => q.elim (fun h => hm (Or.inl h)) (fun q => q.elim (fun h => hm (Or.inr (Or.inl h))) (fun q => q.elim (fun h => hm (Or.inr (Or.inr (Or.inl h)))) (fun q => q.elim (fun h => hm (Or.inr (Or.inr (Or.inr (Or.inl h))))) (fun q => q.elim (fun h => hm (Or.inr (Or.inr (Or.inr (Or.inr (Or.inl h)))))) (fun q => q.elim (fun h => hm (Or.inr (Or.inr (Or.inr (Or.inr (Or.inr (Or.inl h))))))) (fun q => q.elim (fun h => hm (Or.inr (Or.inr (Or.inr (Or.inr (Or.inr (Or.inr (Or.inl h)))))))) (fun q => q.elim (fun h => hm (Or.inr (Or.inr (Or.inr (Or.inr (Or.inr (Or.inr (Or.inr (Or.inl h))))))))) (fun q => q.elim (fun h => hm (Or.inr (Or.inr (Or.inr (Or.inr (Or.inr (Or.inr (Or.inr (Or.inr (Or.inl h)))))))))) (fun h => hm (Or.inr (Or.inr (Or.inr (Or.inr (Or.inr (Or.inr (Or.inr (Or.inr (Or.inr h))))))))))))))))))))))))) (by unfold Rt; omega) (by omega)
            · refine v_ic_ne_f (t := 55) rfl (by decide) (by omega) ?_
              refine q_iconst rfl ?_
              refine q_goto (t := 56) rfl (by decide) ?_
              refine v_zret rfl rfl (by decide) ?_
              refine bk_inl ?_
              refine v_if_eq_f (t := 59) rfl (by decide) (by decide) ?_
              refine q_aload_n rfl rfl ?_
              refine q_iconst rfl ?_
              refine q_iload_n rfl rfl ?_
              refine v_cv rfl rfl rfl rfl (by decide) ⟨⟨rfl, rfl⟩, by decide, rfl⟩ (Nat.le_of_ble_eq_true rfl) (Nat.le_of_ble_eq_true rfl) ?_
              refine q_aload_n rfl rfl ?_
              refine v_gi (z := 4) (v := 0) rfl rfl rfl (by decide) rfl rfl (hz_109) ?_
              refine v_if_ne_f (t := 17) rfl (by decide) (by decide) ?_
              refine q_aload_n rfl rfl ?_
              refine q_iload_n rfl rfl ?_
              refine v_pi (z := 4) rfl rfl rfl (by decide) rfl rfl rfl (by decide) ?_
              refine q_aload_n rfl rfl ?_
              refine q_iload_n rfl rfl ?_
              refine v_pi (z := 5) rfl rfl rfl (by decide) rfl rfl rfl (by decide) ?_
              refine q_vret rfl rfl ?_
              refine bk_inl ?_
              refine q_aload_n rfl rfl ?_
              refine v_cv rfl rfl rfl rfl (by decide) ⟨⟨rfl, rfl⟩, by decide, rfl⟩ (Nat.le_of_ble_eq_true rfl) (Nat.le_of_ble_eq_true rfl) ?_
              refine q_aload_n rfl rfl ?_
              refine v_gi (z := 4) (v := 3) rfl rfl rfl (by decide) rfl rfl ((up_n (by decide)).trans (up_e rfl)) ?_
              refine v_if_ne_t (t := 11) rfl (by decide) (by decide) ?_
              refine q_iconst rfl ?_
              refine v_zret rfl rfl (by decide) ?_
              refine bk_inl ?_
              refine v_if_eq_t (t := 73) rfl (by decide) (by decide) ?_
              refine q_aload_n rfl rfl ?_
              refine q_ldc_s rfl rfl rfl (by decide) ?_
              refine v_cv rfl rfl rfl rfl (by decide) ⟨⟨rfl, rfl⟩, by decide, rfl⟩ (Nat.le_of_ble_eq_true rfl) (Nat.le_of_ble_eq_true rfl) ?_
              refine q_aload_n rfl rfl ?_
              refine v_cv rfl rfl rfl rfl (by decide) ⟨⟨rfl, rfl⟩, by decide, rfl⟩ (Nat.le_of_ble_eq_true rfl) (Nat.le_of_ble_eq_true rfl) ?_
              refine q_aload_n rfl rfl ?_
              refine v_gi (z := 4) (v := 3) rfl rfl rfl (by decide) rfl rfl ((up_n (by decide)).trans (up_e rfl)) ?_
              refine v_if_ne_t (t := 11) rfl (by decide) (by decide) ?_
              refine q_iconst rfl ?_
              refine v_zret rfl rfl (by decide) ?_
              refine bk_inl ?_
              refine v_if_eq_t (t := 25) rfl (by decide) (by decide) ?_
              refine q_vret rfl rfl ?_
              refine bk_inl ?_
              refine v_iinc (v := v + 1) rfl rfl (by decide) (by omega) ?_
              refine q_goto (t := 6) rfl (by decide) ?_
              refine q_iload_n rfl rfl ?_
              refine v_bip rfl (by decide) ?_
              refine v_ic_gt_f (t := 85) rfl (by decide) (by omega) ?_
              refine q_aload_n rfl rfl ?_
              refine v_cv rfl rfl rfl rfl (by decide) ⟨⟨rfl, rfl⟩, by decide, rfl⟩ (Nat.le_of_ble_eq_true rfl) (Nat.le_of_ble_eq_true rfl) ?_
              refine q_aload_n rfl rfl ?_
              refine v_cv rfl rfl rfl rfl (by decide) ⟨⟨rfl, rfl⟩, by decide, rfl⟩ (Nat.le_of_ble_eq_true rfl) (Nat.le_of_ble_eq_true rfl) ?_
              refine q_aload_n rfl rfl ?_
              refine v_gi (z := 4) (v := 3) rfl rfl rfl (by decide) rfl rfl ((up_n (by decide)).trans (up_e rfl)) ?_
              refine v_if_ne_t (t := 11) rfl (by decide) (by decide) ?_
              refine q_iconst rfl ?_
              refine v_zret rfl rfl (by decide) ?_
              refine bk_inl ?_
              refine v_if_eq_t (t := 22) rfl (by decide) (by decide) ?_
              refine q_iconst rfl ?_
              refine v_zret rfl rfl (by decide) ?_
              refine bk_inl ?_
              refine v_if_eq_t (t := 85) rfl (by decide) (by decide) ?_
              refine q_vret rfl rfl ?_
              have hI_886 := iw_1_4 (v := 3) hI_104 ⟨by decide, by decide⟩
              have hI_887 := iw_1_5 (v := (nx F e1 a)) hI_886 ⟨by omega, by omega⟩
              intro hE_888
              have hW : Wd P Q P P (up (up c_103 1 4 3) 1 5 (nx F e1 a)) = Wd P Q P P m9 := (Prod.mk.inj (Prod.mk.inj hE_888).2).1
              have h_889 := ir_1_4 hJ9
              have h_890 : m9 1 4 = 3 := wd_fv (z := 4) 4 rfl hW rfl rfl rfl rfl (by decide) ((up_n (by decide)).trans (up_e rfl)) ⟨by omega, by omega⟩ ⟨by omega, by omega⟩
              have h_891 := ir_1_2 hJ9
              have h_892 : m9 1 2 = (ln F e1 (nx F e1 a)) := wd_fv (z := 2) 2 rfl hW rfl rfl rfl rfl (by decide) ((up_n (by decide)).trans ((up_n (by decide)).trans (hz_108))) ⟨by omega, by omega⟩ ⟨by omega, by omega⟩
              have h_893 := ir_1_5 hJ9
              have h_894 : m9 1 5 = (nx F e1 a) := wd_fv (z := 5) 5 rfl hW rfl rfl rfl rfl (by decide) (up_e rfl) ⟨by omega, by omega⟩ ⟨by omega, by omega⟩
              have kn_895 : Hid (c_27 A 0 = jr) := (hF_29 A 0 (fun h => absurd h.1 (np0 hA rfl))).trans (hg_jr)
              have kn_896 : Hid (c_78 A 0 = jr) := (hF_80 A 0 (fun h => absurd h.1 (np0 hA rfl))).trans (hid kn_895)
              have kn_897 : Hid (c_103 A 0 = jr) := (hF_105 A 0 (fun q => q.elim (fun h => absurd h.1 (np0 hA rfl)) (fun q => q.elim (fun h => absurd h.1 (np0 hA rfl)) (fun h => absurd h.1 (np0 hA rfl))))).trans (hid kn_896)
              have h_898 := ir_p0_0 hJ9 hA
              have h_899 : m9 A 0 = jr := wd_fv (z := 0) 0 rfl hW (ck_p0 hA) (ck_p0 hA) rfl rfl (by omega) ((up_c (np0 hA rfl)).trans ((up_c (np0 hA rfl)).trans (hid kn_897))) ⟨by omega, by omega⟩ ⟨by omega, by omega⟩
              have h_900 := ir_p0_1 hJ9 hA
              have h_901 : m9 A 1 = st := wd_fv (z := 1) 1 rfl hW (ck_p0 hA) (ck_p0 hA) rfl rfl (by omega) ((up_c (np0 hA rfl)).trans ((up_c (np0 hA rfl)).trans (hid kn_657))) ⟨by omega, by omega⟩ ⟨by omega, by omega⟩
              have kn_902 : Hid (c_27 A 2 = si) := (hF_29 A 2 (fun h => absurd h.1 (np0 hA rfl))).trans (hg_si)
              have kn_903 : Hid (c_78 A 2 = si) := (hF_80 A 2 (fun h => absurd h.1 (np0 hA rfl))).trans (hid kn_902)
              have kn_904 : Hid (c_103 A 2 = si) := (hF_105 A 2 (fun q => q.elim (fun h => absurd h.1 (np0 hA rfl)) (fun q => q.elim (fun h => absurd h.1 (np0 hA rfl)) (fun h => absurd h.1 (np0 hA rfl))))).trans (hid kn_903)
              have h_905 := ir_p0_2 hJ9 hA
              have h_906 : m9 A 2 = si := wd_fv (z := 2) 2 rfl hW (ck_p0 hA) (ck_p0 hA) rfl rfl (by omega) ((up_c (np0 hA rfl)).trans ((up_c (np0 hA rfl)).trans (hid kn_904))) ⟨by omega, by omega⟩ ⟨by omega, by omega⟩
              have kn_907 : Hid (c_27 A 3 = du) := (hF_29 A 3 (fun h => absurd h.1 (np0 hA rfl))).trans (hg_du)
              have kn_908 : Hid (c_78 A 3 = du) := (hF_80 A 3 (fun h => absurd h.1 (np0 hA rfl))).trans (hid kn_907)
              have kn_909 : Hid (c_103 A 3 = du) := (hF_105 A 3 (fun q => q.elim (fun h => absurd h.1 (np0 hA rfl)) (fun q => q.elim (fun h => absurd h.1 (np0 hA rfl)) (fun h => absurd h.1 (np0 hA rfl))))).trans (hid kn_908)
              have h_910 := ir_p0_3 hJ9 hA
              have h_911 : m9 A 3 = du := wd_fv (z := 3) 3 rfl hW (ck_p0 hA) (ck_p0 hA) rfl rfl (by omega) ((up_c (np0 hA rfl)).trans ((up_c (np0 hA rfl)).trans (hid kn_909))) ⟨by omega, by omega⟩ ⟨by omega, by omega⟩
              refine q_aload_n rfl rfl ?_
              refine v_cv rfl rfl rfl rfl (by decide) ⟨⟨rfl, rfl⟩, by decide, rfl⟩ (Nat.le_of_ble_eq_true rfl) (Nat.le_of_ble_eq_true rfl) ?_
              refine q_aload_n rfl rfl ?_
              refine v_gi (z := 5) (v := (-1)) rfl rfl rfl (by decide) rfl rfl (hc_1) ?_
              refine q_iconst rfl ?_
              refine v_ic_ne_f (t := 12) rfl (by decide) (by decide) ?_
              refine q_iconst rfl ?_
              refine q_goto (t := 13) rfl (by decide) ?_
              refine v_zret rfl rfl (by decide) ?_
              refine bk_inl ?_
              refine v_if_eq_f (t := 136) rfl (by decide) (by decide) ?_
              refine q_aload_n rfl rfl ?_
              refine v_cv rfl rfl rfl rfl (by decide) ⟨⟨rfl, rfl⟩, by decide, rfl⟩ (Nat.le_of_ble_eq_true rfl) (Nat.le_of_ble_eq_true rfl) ?_
              refine q_aload_n rfl rfl ?_
              have kn_912 : Hid (c2 41 3 = e1) := (hFc 41 3 (fun q => q.elim (fun h => absurd h.2 (ni rfl)) (fun q => q.elim (fun h => absurd h.2 (ni rfl)) (fun q => q.elim (fun h => absurd h.2 (ni rfl)) (fun q => q.elim (fun h => absurd h.2 (ni rfl)) (fun q => q.elim (fun h => absurd h.2 (ni rfl)) (fun q => q.elim (fun h => absurd h.2 (ni rfl)) (fun q => q.elim (fun h => absurd h.2 (ni rfl)) (fun q => q.elim (fun h => absurd h (nn rfl)) (fun q => q.elim (fun h => absurd h (nn rfl)) (fun h => absurd h (nn rfl)))))))))))).trans (hr_e1)
              have h_913 : -2147483648 ≤ (H (nx F e1 a)) ∧ (H (nx F e1 a)) ≤ 2147483647 := by rw [← hH (nx F e1 a)]; exact ir_43 hI (nx F e1 a)
              have h_914 := hU (nx F e1 a) (by omega) (by omega)
              have h_915 := hb_or (b := H) (e := e1) (r := (nx F e1 a))
              have h_916 := hb_bd (b := H) (e := e1) (r := (nx F e1 a)) (lo := -2147483648) (hi := 2147483647) ⟨by omega, by omega⟩ (by decide)
              refine v_cv rfl rfl rfl rfl (by decide) ⟨⟨rfl, rfl⟩, by decide, rfl⟩ (Nat.le_of_ble_eq_true rfl) (Nat.le_of_ble_eq_true rfl) (f_154 (e1 := e1) (a9 := a) (B := H) (r8 := (nx F e1 a)) (r := (hb H e1 (nx F e1 a))) hI2 ((hid kn_912)) ((hr_a)) (fun j => (hFc 43 j (fun q => q.elim (fun h => absurd h.1 (nn rfl)) (fun q => q.elim (fun h => absurd h.1 (nn rfl)) (fun q => q.elim (fun h => absurd h.1 (nn rfl)) (fun q => q.elim (fun h => absurd h.1 (nn rfl)) (fun q => q.elim (fun h => absurd h.1 (nn rfl)) (fun q => q.elim (fun h => absurd h.1 (nn rfl)) (fun q => q.elim (fun h => absurd h.1 (nn rfl)) (fun q => q.elim (fun h => absurd h (nn rfl)) (fun q => q.elim (fun h => absurd h (nn rfl)) (fun h => absurd h (nn rfl)))))))))))).trans (hH j)) ((nx_tr hU (by omega) (by omega)).trans (rfl)) rfl (fun c_917 hI_918 hF_919 h_920 => ?_))
              refine bk_inl ?_
              refine q_pop rfl rfl ?_
              refine q_aload_n rfl rfl ?_
              refine v_gi (z := 4) (v := (nx F e1 a)) rfl rfl rfl (by decide) rfl rfl (h_920) ?_
              refine q_aload_n rfl rfl ?_
              have kn_921 : Hid (c_917 41 3 = e1) := (hF_919 41 3 (fun h => absurd h.2 (ni rfl))).trans (hid kn_912)
              refine v_gi (z := 3) (v := e1) rfl rfl rfl (by decide) rfl rfl (hid kn_921) ?_
              refine v_ic_ge_f (t := 20) rfl (by decide) (by omega) ?_
              refine q_iconst rfl ?_
              refine q_goto (t := 21) rfl (by decide) ?_
              refine v_zret rfl rfl (by decide) ?_
              refine bk_inl ?_
              refine v_if_eq_f (t := 136) rfl (by decide) (by decide) ?_
              refine q_aload_n rfl rfl ?_
              have h_922 := wv_bd (b := F) (r := (nx F e1 a)) (l := (ln F e1 (nx F e1 a))) (fun j h1 h2 => ⟨(ln_in (e := e1) (a := (nx F e1 a)) h1 (by omega)).1, (ln_in (e := e1) (a := (nx F e1 a)) h1 (by omega)).2.1⟩)
              have h_923 := wr8_1 (b := F) (r := (nx F e1 a)) (l := (ln F e1 (nx F e1 a))) (by omega) (fun j h1 h2 => ⟨(ln_in (e := e1) (a := (nx F e1 a)) h1 (by omega)).1, (ln_in (e := e1) (a := (nx F e1 a)) h1 (by omega)).2.1⟩) (by omega)
              refine v_cv rfl rfl rfl rfl (by decide) ⟨⟨rfl, rfl⟩, by decide, rfl⟩ (Nat.le_of_ble_eq_true rfl) (Nat.le_of_ble_eq_true rfl) (f_157 (e1 := e1) (a9 := (nx F e1 a)) (B := H) (r8 := (nx F e1 a)) (L8 := (ln F e1 (nx F e1 a))) (W8 := (wv F (nx F e1 a) (ln F e1 (nx F e1 a)))) hI_918 ((hid kn_921)) ((h_920)) (fun j => ((hF_919 43 j (fun h => absurd h.1 (nn rfl))).trans (hFc 43 j (fun q => q.elim (fun h => absurd h.1 (nn rfl)) (fun q => q.elim (fun h => absurd h.1 (nn rfl)) (fun q => q.elim (fun h => absurd h.1 (nn rfl)) (fun q => q.elim (fun h => absurd h.1 (nn rfl)) (fun q => q.elim (fun h => absurd h.1 (nn rfl)) (fun q => q.elim (fun h => absurd h.1 (nn rfl)) (fun q => q.elim (fun h => absurd h.1 (nn rfl)) (fun q => q.elim (fun h => absurd h (nn rfl)) (fun q => q.elim (fun h => absurd h (nn rfl)) (fun h => absurd h (nn rfl))))))))))))).trans (hH j)) ((nx_tr hU (by omega) (by omega)).trans ((nx_z (by omega)))) ((ln_tr hU (by omega) (by omega)).trans (rfl)) ((wv_tr hU (by omega) (by omega) (fun j h1 h2 => ⟨(ln_in (e := e1) (a := (nx F e1 a)) h1 (by omega)).1, (ln_in (e := e1) (a := (nx F e1 a)) h1 (by omega)).2.1⟩)).trans (rfl)) (fun c_924 hI_925 hF_926 hz_927 => ?_))
              refine bk_inl ?_
              refine q_istore_n rfl (by decide) ?_
              refine q_iload_n rfl rfl ?_
              refine q_call rfl rfl rfl rfl ?_
              refine q_iload_n rfl rfl ?_
              refine q_ldc_s rfl rfl rfl (by decide) ?_
              refine q_call rfl rfl rfl rfl (s_158_16 ?_)
              refine bk_inl ?_
              refine v_ic_eq_f (t := 36) rfl (by decide) (by omega) ?_
              refine q_iload_n rfl rfl ?_
              refine q_ldc_s rfl rfl rfl (by decide) ?_
              refine q_call rfl rfl rfl rfl (s_158_17 ?_)
              refine bk_inl ?_
              refine v_ic_eq_t (t := 36) rfl (by decide) (by omega) ?_
              refine q_iconst rfl ?_
              refine q_goto (t := 41) rfl (by decide) ?_
              refine v_zret rfl rfl (by decide) ?_
              refine bk_inl ?_
              refine v_if_ne_t (t := 82) rfl (by decide) (by decide) ?_
              refine q_iload_n rfl rfl ?_
              refine v_bip rfl (by decide) ?_
              refine v_ic_eq_f (t := 96) rfl (by decide) (by omega) ?_
              refine q_aload_n rfl rfl ?_
              refine q_iload_n rfl rfl ?_
              refine v_cv rfl rfl rfl rfl (by decide) ⟨⟨rfl, rfl⟩, by decide, rfl⟩ (Nat.le_of_ble_eq_true rfl) (Nat.le_of_ble_eq_true rfl) ?_
              refine q_iload_n rfl rfl ?_
              refine q_ldc_s rfl rfl rfl (by decide) ?_
              refine q_call rfl rfl rfl rfl (s_158_16 ?_)
              refine bk_inl ?_
              refine v_ic_ne_t (t := 26) rfl (by decide) (by omega) ?_
              refine q_iload_n rfl rfl ?_
              refine q_ldc_s rfl rfl rfl (by decide) ?_
              refine q_call rfl rfl rfl rfl (s_158_17 ?_)
              refine bk_inl ?_
              refine v_ic_ne_f (t := 51) rfl (by decide) (by omega) ?_
              refine q_aload_n rfl rfl ?_
              have kn_928 : Hid (c_917 41 17 = st) := (hF_919 41 17 (fun h => absurd h.2 (ni rfl))).trans (hr_st)
              have kn_929 : Hid (c_924 41 17 = st) := (hF_926 41 17 (fun h => absurd h.2 (ni rfl))).trans (hid kn_928)
              refine v_gi (z := 17) (v := st) rfl rfl rfl (by decide) rfl rfl (hid kn_929) ?_
              refine q_iconst rfl ?_
              refine v_ic_ne_f (t := 47) rfl (by decide) (by omega) ?_
              refine q_iconst rfl ?_
              refine q_goto (t := 73) rfl (by decide) ?_
              refine v_zret rfl rfl (by decide) ?_
              refine bk_inl ?_
              refine v_if_eq_f (t := 105) rfl (by decide) (by decide) ?_
              refine q_aload_n rfl rfl ?_
              refine q_iconst rfl ?_
              refine q_aload_n rfl rfl ?_
              refine v_gi (z := 4) (v := (nx F e1 a)) rfl rfl rfl (by decide) rfl rfl (hz_927) ?_
              refine v_cv rfl rfl rfl rfl (by decide) ⟨⟨rfl, rfl⟩, by decide, rfl⟩ (Nat.le_of_ble_eq_true rfl) (Nat.le_of_ble_eq_true rfl) ?_
              refine q_aload_n rfl rfl ?_
              have kn_930 : Hid (c_917 41 5 = (-1)) := (hF_919 41 5 (fun h => absurd h.2 (ni rfl))).trans (hc_1)
              have kn_931 : Hid (c_924 41 5 = (-1)) := (hF_926 41 5 (fun h => absurd h.2 (ni rfl))).trans (hid kn_930)
              refine v_gi (z := 5) (v := (-1)) rfl rfl rfl (by decide) rfl rfl (hid kn_931) ?_
              refine q_iconst rfl ?_
              refine v_ic_eq_t (t := 9) rfl (by decide) (by decide) ?_
              refine q_aload_n rfl rfl ?_
              refine q_iload_n rfl rfl ?_
              refine v_pi (z := 5) rfl rfl rfl (by decide) rfl rfl rfl (by decide) ?_
              refine q_aload_n rfl rfl ?_
              refine q_iload_n rfl rfl ?_
              refine v_pi (z := 6) rfl rfl rfl (by decide) rfl rfl rfl (by decide) ?_
              refine q_vret rfl rfl ?_
              refine bk_inl ?_
              refine q_aload_n rfl rfl ?_
              refine v_cv rfl rfl rfl rfl (by decide) ⟨⟨rfl, rfl⟩, by decide, rfl⟩ (Nat.le_of_ble_eq_true rfl) (Nat.le_of_ble_eq_true rfl) ?_
              refine q_aload_n rfl rfl ?_
              refine v_gi (z := 5) (v := (nx F e1 a)) rfl rfl rfl (by decide) rfl rfl ((up_n (by decide)).trans (up_e rfl)) ?_
              refine q_iconst rfl ?_
              refine v_ic_ne_t (t := 12) rfl (by decide) (by omega) ?_
              refine q_iconst rfl ?_
              refine v_zret rfl rfl (by decide) ?_
              refine bk_inl ?_
              refine v_if_ne_f (t := 115) rfl (by decide) (by decide) ?_
              refine q_goto (t := 136) rfl (by decide) ?_
              refine Wp_ls [(0, .ref 41), (1, vi a1)] (lsub_cons rfl (lsub_cons rfl lsub_nil)) ?_
              have hI_932 := iw_41_5 (v := (nx F e1 a)) hI_925 ⟨by omega, by omega⟩
              have hI_933 := iw_41_6 (v := 3) hI_932 ⟨by decide, by decide⟩
              have h_934 : (up (up c_924 41 5 (nx F e1 a)) 41 6 3) 41 5 = (nx F e1 a) := ((up_n (by decide)).trans (up_e rfl))
              have h_935 : (up (up c_924 41 5 (nx F e1 a)) 41 6 3) 41 4 = (nx F e1 a) := ((up_n (by decide)).trans ((up_n (by decide)).trans (hz_927)))
              have h_936 : (up (up c_924 41 5 (nx F e1 a)) 41 6 3) 41 6 = 3 := (up_e rfl)
              have kn_937 : Hid (c_917 41 16 = jr) := (hF_919 41 16 (fun h => absurd h.2 (ni rfl))).trans (hr_jr)
              have kn_938 : Hid (c_924 41 16 = jr) := (hF_926 41 16 (fun h => absurd h.2 (ni rfl))).trans (hid kn_937)
              have h_939 : (up (up c_924 41 5 (nx F e1 a)) 41 6 3) 41 16 = jr := ((up_n (by decide)).trans ((up_n (by decide)).trans (hid kn_938)))
              have h_940 : (up (up c_924 41 5 (nx F e1 a)) 41 6 3) 41 17 = st := ((up_n (by decide)).trans ((up_n (by decide)).trans (hid kn_929)))
              have kn_941 : Hid (c_917 41 18 = si) := (hF_919 41 18 (fun h => absurd h.2 (ni rfl))).trans (hr_si)
              have kn_942 : Hid (c_924 41 18 = si) := (hF_926 41 18 (fun h => absurd h.2 (ni rfl))).trans (hid kn_941)
              have h_943 : (up (up c_924 41 5 (nx F e1 a)) 41 6 3) 41 18 = si := ((up_n (by decide)).trans ((up_n (by decide)).trans (hid kn_942)))
              have kn_944 : Hid (c_917 41 19 = du) := (hF_919 41 19 (fun h => absurd h.2 (ni rfl))).trans (hr_du)
              have kn_945 : Hid (c_924 41 19 = du) := (hF_926 41 19 (fun h => absurd h.2 (ni rfl))).trans (hid kn_944)
              have h_946 : (up (up c_924 41 5 (nx F e1 a)) 41 6 3) 41 19 = du := ((up_n (by decide)).trans ((up_n (by decide)).trans (hid kn_945)))
              exact K (up (up c_924 41 5 (nx F e1 a)) 41 6 3)  hI_933 (fun a j hm => (up_b (Decidable.or_iff_not_imp_left.mpr (fun h1 h2 => hm (Or.inr (Or.inr (Or.inl ⟨Decidable.not_not.mp h1, h2⟩)))))).trans ((up_b (Decidable.or_iff_not_imp_left.mpr (fun h1 h2 => hm (Or.inr (Or.inl ⟨Decidable.not_not.mp h1, h2⟩))))).trans ((hF_926 a j (fun h => hm (Or.inl h))).trans ((hF_919 a j (fun h => hm (Or.inl h))).trans (hFc a j (fun q => q.elim (fun h => hm (Or.inl h)) (fun q => q.elim (fun h => hm (Or.inr (Or.inl h))) (fun q => q.elim (fun h => hm (Or.inr (Or.inr (Or.inl h)))) (fun q => q.elim (fun h => hm (Or.inr (Or.inr (Or.inr (Or.inl h))))) (fun q => q.elim (fun h => hm (Or.inr (Or.inr (Or.inr (Or.inr (Or.inl h)))))) (fun q => q.elim (fun h => hm (Or.inr (Or.inr (Or.inr (Or.inr (Or.inr (Or.inl h))))))) (fun q => q.elim (fun h => hm (Or.inr (Or.inr (Or.inr (Or.inr (Or.inr (Or.inr (Or.inl h)))))))) (fun q => q.elim (fun h => hm (Or.inr (Or.inr (Or.inr (Or.inr (Or.inr (Or.inr (Or.inr (Or.inl h))))))))) (fun q => q.elim (fun h => hm (Or.inr (Or.inr (Or.inr (Or.inr (Or.inr (Or.inr (Or.inr (Or.inr (Or.inl h)))))))))) (fun h => hm (Or.inr (Or.inr (Or.inr (Or.inr (Or.inr (Or.inr (Or.inr (Or.inr (Or.inr h)))))))))))))))))))))))) (by unfold Rt; omega) (by omega)
          by_cases h_947 : (wd8_0 F (nx F e1 a) (ln F e1 (nx F e1 a))) = 2
          · skip
            refine v_tsw_i (t := 57) 2 rfl (by omega) (by decide) rfl (by decide) ?_
            refine q_aload_n rfl rfl ?_
            have kn_948 : Hid (c_27 A 2 = si) := (hF_29 A 2 (fun h => absurd h.1 (np0 hA rfl))).trans (hg_si)
            have kn_949 : Hid (c_78 A 2 = si) := (hF_80 A 2 (fun h => absurd h.1 (np0 hA rfl))).trans (hid kn_948)
            have kn_950 : Hid (c_103 A 2 = si) := (hF_105 A 2 (fun q => q.elim (fun h => absurd h.1 (np0 hA rfl)) (fun q => q.elim (fun h => absurd h.1 (np0 hA rfl)) (fun h => absurd h.1 (np0 hA rfl))))).trans (hid kn_949)
            refine v_gi (z := 2) (v := si) rfl rfl (ck_p0 hA) (by omega) rfl rfl (hid kn_950) ?_
            refine q_iconst rfl ?_
            by_cases h_951 : si ≠ 4
            · refine v_ic_ne_t (t := 69) rfl (by decide) (by omega) ?_
              refine q_iconst rfl ?_
              refine v_zret rfl rfl (by decide) ?_
              refine bk_inl ?_
              refine v_if_eq_t (t := 59) rfl (by decide) (by decide) ?_
              refine q_aload_n rfl rfl ?_
              refine v_cv rfl rfl rfl rfl (by decide) ⟨⟨rfl, rfl⟩, by decide, rfl⟩ (Nat.le_of_ble_eq_true rfl) (Nat.le_of_ble_eq_true rfl) ?_
              refine q_aload_n rfl rfl ?_
              refine v_gi (z := 4) (v := 0) rfl rfl rfl (by decide) rfl rfl (hz_109) ?_
              refine v_if_ne_f (t := 11) rfl (by decide) (by decide) ?_
              refine q_iconst rfl ?_
              refine q_goto (t := 12) rfl (by decide) ?_
              refine v_zret rfl rfl (by decide) ?_
              refine bk_inl ?_
              refine v_if_eq_f (t := 73) rfl (by decide) (by decide) ?_
              refine q_aload_n rfl rfl ?_
              refine q_aload_n rfl rfl ?_
              refine q_iload rfl rfl ?_
              have hw_952 : (wd8_0 F (nx F e1 a) (ln F e1 (nx F e1 a))) = 2 := by omega
              rw [hw_952]
              have kn_953 : Hid (c_27 A 0 = jr) := (hF_29 A 0 (fun h => absurd h.1 (np0 hA rfl))).trans (hg_jr)
              have kn_954 : Hid (c_78 A 0 = jr) := (hF_80 A 0 (fun h => absurd h.1 (np0 hA rfl))).trans (hid kn_953)
              have kn_955 : Hid (c_103 A 0 = jr) := (hF_105 A 0 (fun q => q.elim (fun h => absurd h.1 (np0 hA rfl)) (fun q => q.elim (fun h => absurd h.1 (np0 hA rfl)) (fun h => absurd h.1 (np0 hA rfl))))).trans (hid kn_954)
              have h_956 : c_103 A 0 = jr := (hid kn_955)
              have kn_957 : Hid (c_27 A 1 = st) := (hF_29 A 1 (fun h => absurd h.1 (np0 hA rfl))).trans (hg_st)
              have kn_958 : Hid (c_78 A 1 = st) := (hF_80 A 1 (fun h => absurd h.1 (np0 hA rfl))).trans (hid kn_957)
              have kn_959 : Hid (c_103 A 1 = st) := (hF_105 A 1 (fun q => q.elim (fun h => absurd h.1 (np0 hA rfl)) (fun q => q.elim (fun h => absurd h.1 (np0 hA rfl)) (fun h => absurd h.1 (np0 hA rfl))))).trans (hid kn_958)
              have h_960 : c_103 A 1 = st := (hid kn_959)
              have h_961 : c_103 A 2 = si := (hid kn_950)
              refine v_cv rfl rfl rfl (ck_p0 hA) (by omega) ⟨⟨rfl, rfl⟩, by decide, rfl⟩ (Nat.le_of_ble_eq_true rfl) (Nat.le_of_ble_eq_true rfl) (fn_of (s_33 (a2 := 2) hI_104 hA (show 0 ≤ 2 ∧ 2 ≤ 100 from by omega) (by omega) (by omega) (by omega) (fun c_962 hI_963 hF_964 => ?_)))
              intro hG_965
              refine bk_inl ?_
              refine q_aload_n rfl rfl ?_
              refine q_ldc_s rfl rfl rfl (by decide) ?_
              have h_966 := ir_1_4 hI_963
              refine v_cv rfl rfl rfl rfl (by decide) ⟨⟨rfl, rfl⟩, by decide, rfl⟩ (Nat.le_of_ble_eq_true rfl) (Nat.le_of_ble_eq_true rfl) (fn_of (s_11 hI_963 (q := 9) (nt := 1) (by decide) (by decide) (by decide) (fun c_967 hI_968 hF_969 => ?_)))
              intro hG_970
              refine bk_inl ?_
              refine v_iinc (v := v + 1) rfl rfl (by decide) (by omega) ?_
              refine q_goto (t := 6) rfl (by decide) ?_
              have h_971 := ir_1_4 hI_968
              by_cases h_972 : c_967 1 4 = 0
              · skip
                refine Wp_ls [(0, .ref A), (1, .ref 1), (2, vi (v + 1))] (lsub_cons rfl (lsub_cons rfl (lsub_cons rfl lsub_nil))) ?_
                refine gh_stop (s_34_l (sc := sc) (d := dh + 18) (c := c_967) (Z := fun _ => True) hI_968 hA (fun _ _ _ => trivial) 124 c_967 (v + 1) hI_968 (fun a j hm => rfl) ⟨by omega, by omega⟩ (by omega)) (fun hG_973 => ?_)
                refine q_aload_n rfl rfl ?_
                refine v_cv rfl rfl rfl rfl (by decide) ⟨⟨rfl, rfl⟩, by decide, rfl⟩ (Nat.le_of_ble_eq_true rfl) (Nat.le_of_ble_eq_true rfl) ?_
                refine q_aload_n rfl rfl ?_
                refine v_gi (z := 5) (v := (-1)) rfl rfl rfl (by decide) rfl rfl (hc_1) ?_
                refine q_iconst rfl ?_
                refine v_ic_ne_f (t := 12) rfl (by decide) (by decide) ?_
                refine q_iconst rfl ?_
                refine q_goto (t := 13) rfl (by decide) ?_
                refine v_zret rfl rfl (by decide) ?_
                refine bk_inl ?_
                refine v_if_eq_f (t := 136) rfl (by decide) (by decide) ?_
                refine q_aload_n rfl rfl ?_
                refine v_cv rfl rfl rfl rfl (by decide) ⟨⟨rfl, rfl⟩, by decide, rfl⟩ (Nat.le_of_ble_eq_true rfl) (Nat.le_of_ble_eq_true rfl) ?_
                refine q_aload_n rfl rfl ?_
                have kn_974 : Hid (c2 41 3 = e1) := (hFc 41 3 (fun q => q.elim (fun h => absurd h.2 (ni rfl)) (fun q => q.elim (fun h => absurd h.2 (ni rfl)) (fun q => q.elim (fun h => absurd h.2 (ni rfl)) (fun q => q.elim (fun h => absurd h.2 (ni rfl)) (fun q => q.elim (fun h => absurd h.2 (ni rfl)) (fun q => q.elim (fun h => absurd h.2 (ni rfl)) (fun q => q.elim (fun h => absurd h.2 (ni rfl)) (fun q => q.elim (fun h => absurd h (nn rfl)) (fun q => q.elim (fun h => absurd h (nn rfl)) (fun h => absurd h (nn rfl)))))))))))).trans (hr_e1)
                have h_975 : -2147483648 ≤ (H (nx F e1 a)) ∧ (H (nx F e1 a)) ≤ 2147483647 := by rw [← hH (nx F e1 a)]; exact ir_43 hI (nx F e1 a)
                have h_976 := hU (nx F e1 a) (by omega) (by omega)
                have h_977 := hb_or (b := H) (e := e1) (r := (nx F e1 a))
                have h_978 := hb_bd (b := H) (e := e1) (r := (nx F e1 a)) (lo := -2147483648) (hi := 2147483647) ⟨by omega, by omega⟩ (by decide)
                refine v_cv rfl rfl rfl rfl (by decide) ⟨⟨rfl, rfl⟩, by decide, rfl⟩ (Nat.le_of_ble_eq_true rfl) (Nat.le_of_ble_eq_true rfl) (f_154 (e1 := e1) (a9 := a) (B := H) (r8 := (nx F e1 a)) (r := (hb H e1 (nx F e1 a))) hI2 ((hid kn_974)) ((hr_a)) (fun j => (hFc 43 j (fun q => q.elim (fun h => absurd h.1 (nn rfl)) (fun q => q.elim (fun h => absurd h.1 (nn rfl)) (fun q => q.elim (fun h => absurd h.1 (nn rfl)) (fun q => q.elim (fun h => absurd h.1 (nn rfl)) (fun q => q.elim (fun h => absurd h.1 (nn rfl)) (fun q => q.elim (fun h => absurd h.1 (nn rfl)) (fun q => q.elim (fun h => absurd h.1 (nn rfl)) (fun q => q.elim (fun h => absurd h (nn rfl)) (fun q => q.elim (fun h => absurd h (nn rfl)) (fun h => absurd h (nn rfl)))))))))))).trans (hH j)) ((nx_tr hU (by omega) (by omega)).trans (rfl)) rfl (fun c_979 hI_980 hF_981 h_982 => ?_))
                refine bk_inl ?_
                refine q_pop rfl rfl ?_
                refine q_aload_n rfl rfl ?_
                refine v_gi (z := 4) (v := (nx F e1 a)) rfl rfl rfl (by decide) rfl rfl (h_982) ?_
                refine q_aload_n rfl rfl ?_
                have kn_983 : Hid (c_979 41 3 = e1) := (hF_981 41 3 (fun h => absurd h.2 (ni rfl))).trans (hid kn_974)
                refine v_gi (z := 3) (v := e1) rfl rfl rfl (by decide) rfl rfl (hid kn_983) ?_
                refine v_ic_ge_f (t := 20) rfl (by decide) (by omega) ?_
                refine q_iconst rfl ?_
                refine q_goto (t := 21) rfl (by decide) ?_
                refine v_zret rfl rfl (by decide) ?_
                refine bk_inl ?_
                refine v_if_eq_f (t := 136) rfl (by decide) (by decide) ?_
                refine q_aload_n rfl rfl ?_
                have h_984 := wv_bd (b := F) (r := (nx F e1 a)) (l := (ln F e1 (nx F e1 a))) (fun j h1 h2 => ⟨(ln_in (e := e1) (a := (nx F e1 a)) h1 (by omega)).1, (ln_in (e := e1) (a := (nx F e1 a)) h1 (by omega)).2.1⟩)
                have h_985 := wr8_2 (b := F) (r := (nx F e1 a)) (l := (ln F e1 (nx F e1 a))) (by omega) (fun j h1 h2 => ⟨(ln_in (e := e1) (a := (nx F e1 a)) h1 (by omega)).1, (ln_in (e := e1) (a := (nx F e1 a)) h1 (by omega)).2.1⟩) (by omega)
                refine v_cv rfl rfl rfl rfl (by decide) ⟨⟨rfl, rfl⟩, by decide, rfl⟩ (Nat.le_of_ble_eq_true rfl) (Nat.le_of_ble_eq_true rfl) (f_157 (e1 := e1) (a9 := (nx F e1 a)) (B := H) (r8 := (nx F e1 a)) (L8 := (ln F e1 (nx F e1 a))) (W8 := (wv F (nx F e1 a) (ln F e1 (nx F e1 a)))) hI_980 ((hid kn_983)) ((h_982)) (fun j => ((hF_981 43 j (fun h => absurd h.1 (nn rfl))).trans (hFc 43 j (fun q => q.elim (fun h => absurd h.1 (nn rfl)) (fun q => q.elim (fun h => absurd h.1 (nn rfl)) (fun q => q.elim (fun h => absurd h.1 (nn rfl)) (fun q => q.elim (fun h => absurd h.1 (nn rfl)) (fun q => q.elim (fun h => absurd h.1 (nn rfl)) (fun q => q.elim (fun h => absurd h.1 (nn rfl)) (fun q => q.elim (fun h => absurd h.1 (nn rfl)) (fun q => q.elim (fun h => absurd h (nn rfl)) (fun q => q.elim (fun h => absurd h (nn rfl)) (fun h => absurd h (nn rfl))))))))))))).trans (hH j)) ((nx_tr hU (by omega) (by omega)).trans ((nx_z (by omega)))) ((ln_tr hU (by omega) (by omega)).trans (rfl)) ((wv_tr hU (by omega) (by omega) (fun j h1 h2 => ⟨(ln_in (e := e1) (a := (nx F e1 a)) h1 (by omega)).1, (ln_in (e := e1) (a := (nx F e1 a)) h1 (by omega)).2.1⟩)).trans (rfl)) (fun c_986 hI_987 hF_988 hz_989 => ?_))
                refine bk_inl ?_
                refine q_istore_n rfl (by decide) ?_
                refine q_iload_n rfl rfl ?_
                refine q_call rfl rfl rfl rfl ?_
                refine q_iload_n rfl rfl ?_
                refine q_ldc_s rfl rfl rfl (by decide) ?_
                refine q_call rfl rfl rfl rfl (s_158_16 ?_)
                refine bk_inl ?_
                refine v_ic_eq_f (t := 36) rfl (by decide) (by omega) ?_
                refine q_iload_n rfl rfl ?_
                refine q_ldc_s rfl rfl rfl (by decide) ?_
                refine q_call rfl rfl rfl rfl (s_158_17 ?_)
                refine bk_inl ?_
                refine v_ic_eq_f (t := 36) rfl (by decide) (by omega) ?_
                refine q_iload_n rfl rfl ?_
                refine q_ldc_s rfl rfl rfl (by decide) ?_
                refine q_call rfl rfl rfl rfl (s_158_18 ?_)
                refine bk_inl ?_
                refine v_ic_eq_t (t := 36) rfl (by decide) (by omega) ?_
                refine q_iconst rfl ?_
                refine q_goto (t := 41) rfl (by decide) ?_
                refine v_zret rfl rfl (by decide) ?_
                refine bk_inl ?_
                refine v_if_ne_t (t := 82) rfl (by decide) (by decide) ?_
                refine q_iload_n rfl rfl ?_
                refine v_bip rfl (by decide) ?_
                refine v_ic_eq_f (t := 96) rfl (by decide) (by omega) ?_
                refine q_aload_n rfl rfl ?_
                refine q_iload_n rfl rfl ?_
                refine v_cv rfl rfl rfl rfl (by decide) ⟨⟨rfl, rfl⟩, by decide, rfl⟩ (Nat.le_of_ble_eq_true rfl) (Nat.le_of_ble_eq_true rfl) ?_
                refine q_iload_n rfl rfl ?_
                refine q_ldc_s rfl rfl rfl (by decide) ?_
                refine q_call rfl rfl rfl rfl (s_158_16 ?_)
                refine bk_inl ?_
                refine v_ic_ne_t (t := 26) rfl (by decide) (by omega) ?_
                refine q_iload_n rfl rfl ?_
                refine q_ldc_s rfl rfl rfl (by decide) ?_
                refine q_call rfl rfl rfl rfl (s_158_17 ?_)
                refine bk_inl ?_
                refine v_ic_ne_t (t := 51) rfl (by decide) (by omega) ?_
                refine q_iload_n rfl rfl ?_
                refine q_ldc_s rfl rfl rfl (by decide) ?_
                refine q_call rfl rfl rfl rfl (s_158_18 ?_)
                refine bk_inl ?_
                refine v_ic_ne_f (t := 72) rfl (by decide) (by omega) ?_
                refine q_aload_n rfl rfl ?_
                have kn_990 : Hid (c_979 41 18 = si) := (hF_981 41 18 (fun h => absurd h.2 (ni rfl))).trans (hr_si)
                have kn_991 : Hid (c_986 41 18 = si) := (hF_988 41 18 (fun h => absurd h.2 (ni rfl))).trans (hid kn_990)
                refine v_gi (z := 18) (v := si) rfl rfl rfl (by decide) rfl rfl (hid kn_991) ?_
                refine q_iconst rfl ?_
                refine v_ic_ne_t (t := 72) rfl (by decide) (by omega) ?_
                refine q_iconst rfl ?_
                refine v_zret rfl rfl (by decide) ?_
                refine bk_inl ?_
                refine v_if_eq_t (t := 105) rfl (by decide) (by decide) ?_
                refine q_aload_n rfl rfl ?_
                refine v_cv rfl rfl rfl rfl (by decide) ⟨⟨rfl, rfl⟩, by decide, rfl⟩ (Nat.le_of_ble_eq_true rfl) (Nat.le_of_ble_eq_true rfl) ?_
                refine q_aload_n rfl rfl ?_
                have kn_992 : Hid (c_979 41 5 = (-1)) := (hF_981 41 5 (fun h => absurd h.2 (ni rfl))).trans (hc_1)
                have kn_993 : Hid (c_986 41 5 = (-1)) := (hF_988 41 5 (fun h => absurd h.2 (ni rfl))).trans (hid kn_992)
                refine v_gi (z := 5) (v := (-1)) rfl rfl rfl (by decide) rfl rfl (hid kn_993) ?_
                refine q_iconst rfl ?_
                refine v_ic_ne_f (t := 12) rfl (by decide) (by decide) ?_
                refine q_iconst rfl ?_
                refine q_goto (t := 13) rfl (by decide) ?_
                refine v_zret rfl rfl (by decide) ?_
                refine bk_inl ?_
                refine v_if_ne_t (t := 115) rfl (by decide) (by decide) ?_
                refine q_aload_n rfl rfl ?_
                have kn_994 : Hid (c_986 41 3 = e1) := (hF_988 41 3 (fun h => absurd h.2 (ni rfl))).trans (hid kn_983)
                refine v_cv rfl rfl rfl rfl (by decide) ⟨⟨rfl, rfl⟩, by decide, rfl⟩ (Nat.le_of_ble_eq_true rfl) (Nat.le_of_ble_eq_true rfl) (f_159 (e1 := e1) (a9 := (nx F e1 a)) (B := H) (L8 := (ln F e1 (nx F e1 a))) hI_987 ((hid kn_994)) ((hz_989)) (fun j => ((hF_988 43 j (fun h => absurd h.1 (nn rfl))).trans ((hF_981 43 j (fun h => absurd h.1 (nn rfl))).trans (hFc 43 j (fun q => q.elim (fun h => absurd h.1 (nn rfl)) (fun q => q.elim (fun h => absurd h.1 (nn rfl)) (fun q => q.elim (fun h => absurd h.1 (nn rfl)) (fun q => q.elim (fun h => absurd h.1 (nn rfl)) (fun q => q.elim (fun h => absurd h.1 (nn rfl)) (fun q => q.elim (fun h => absurd h.1 (nn rfl)) (fun q => q.elim (fun h => absurd h.1 (nn rfl)) (fun q => q.elim (fun h => absurd h (nn rfl)) (fun q => q.elim (fun h => absurd h (nn rfl)) (fun h => absurd h (nn rfl)))))))))))))).trans (hH j)) ((ln_tr hU (by omega) (by omega)).trans (rfl)) (fun c_995 hI_996 hF_997 hz_998 => ?_))
                refine bk_inl ?_
                refine q_aload_n rfl rfl ?_
                refine q_iload_n rfl rfl ?_
                have hw_999 : (wv F (nx F e1 a) (ln F e1 (nx F e1 a))) = 20223685 := by omega
                rw [hw_999]
                have kn_1000 : Hid (c_103 1 1 = e1) := (hF_105 1 1 (fun q => q.elim (fun h => absurd h.2 (ni rfl)) (fun q => q.elim (fun h => absurd h.2 (ni rfl)) (fun h => absurd h.2 (ni rfl))))).trans (hid kn_82)
                have kn_1001 : Hid (c_995 41 3 = e1) := (hF_997 41 3 (fun h => absurd h.2 (ni rfl))).trans (hid kn_994)
                have kn_1002 : Hid (c_979 41 16 = jr) := (hF_981 41 16 (fun h => absurd h.2 (ni rfl))).trans (hr_jr)
                have kn_1003 : Hid (c_986 41 16 = jr) := (hF_988 41 16 (fun h => absurd h.2 (ni rfl))).trans (hid kn_1002)
                have kn_1004 : Hid (c_995 41 16 = jr) := (hF_997 41 16 (fun h => absurd h.2 (ni rfl))).trans (hid kn_1003)
                have kn_1005 : Hid (c_979 41 17 = st) := (hF_981 41 17 (fun h => absurd h.2 (ni rfl))).trans (hr_st)
                have kn_1006 : Hid (c_986 41 17 = st) := (hF_988 41 17 (fun h => absurd h.2 (ni rfl))).trans (hid kn_1005)
                have kn_1007 : Hid (c_995 41 17 = st) := (hF_997 41 17 (fun h => absurd h.2 (ni rfl))).trans (hid kn_1006)
                have kn_1008 : Hid (c_995 41 18 = si) := (hF_997 41 18 (fun h => absurd h.2 (ni rfl))).trans (hid kn_991)
                have kn_1009 : Hid (c_27 A 3 = du) := (hF_29 A 3 (fun h => absurd h.1 (np0 hA rfl))).trans (hg_du)
                have kn_1010 : Hid (c_78 A 3 = du) := (hF_80 A 3 (fun h => absurd h.1 (np0 hA rfl))).trans (hid kn_1009)
                have kn_1011 : Hid (c_103 A 3 = du) := (hF_105 A 3 (fun q => q.elim (fun h => absurd h.1 (np0 hA rfl)) (fun q => q.elim (fun h => absurd h.1 (np0 hA rfl)) (fun h => absurd h.1 (np0 hA rfl))))).trans (hid kn_1010)
                have kn_1012 : Hid (c_979 41 19 = du) := (hF_981 41 19 (fun h => absurd h.2 (ni rfl))).trans (hr_du)
                have kn_1013 : Hid (c_986 41 19 = du) := (hF_988 41 19 (fun h => absurd h.2 (ni rfl))).trans (hid kn_1012)
                have kn_1014 : Hid (c_995 41 19 = du) := (hF_997 41 19 (fun h => absurd h.2 (ni rfl))).trans (hid kn_1013)
                have h_1015 : c_103 1 4 = 0 := (hz_109)
                have h_1016 : c_103 1 2 = (ln F e1 (nx F e1 a)) := (hz_108)
                have h_1017 : c_103 1 5 = (-1) := (hz_110)
                have kn_1018 : Hid (c_995 41 5 = (-1)) := (hF_997 41 5 (fun h => absurd h.2 (ni rfl))).trans (hid kn_993)
                have h_1019 : c_995 41 5 = (-1) := (hid kn_1018)
                have h_1020 : c_995 41 4 = (ln F e1 (nx F e1 a)) := (hz_998)
                have h_1021 := ir_41_6 hI2
                have kn_1022 : Hid (c_979 41 6 = c2 41 6) := hF_981 41 6 (fun h => absurd h.2 (ni rfl))
                have kn_1023 : Hid (c_986 41 6 = c2 41 6) := (hF_988 41 6 (fun h => absurd h.2 (ni rfl))).trans (hid kn_1022)
                have kn_1024 : Hid (c_995 41 6 = c2 41 6) := (hF_997 41 6 (fun h => absurd h.2 (ni rfl))).trans (hid kn_1023)
                have h_1025 : c_995 41 6 = c2 41 6 := (hid kn_1024)
                refine v_cv rfl rfl rfl rfl (by decide) ⟨⟨rfl, rfl⟩, by decide, rfl⟩ (Nat.le_of_ble_eq_true rfl) (Nat.le_of_ble_eq_true rfl) (L_33_2 (m := c_103) (e1 := e1) (jr := jr) (st := st) (si := si) (du := du) (F := F) (H := H) hI_996 hI_104 hI_963 hA (by omega) ((hid kn_1000)) ((hid kn_1001)) ((hid kn_955)) ((hid kn_1004)) ((hid kn_959)) ((hid kn_1007)) ((hid kn_950)) ((hid kn_1008)) ((hid kn_1011)) ((hid kn_1014)) (fun j => ((hF_105 2 j (fun q => q.elim (fun h => absurd h.1 (nn rfl)) (fun q => q.elim (fun h => absurd h.1 (nn rfl)) (fun h => absurd h.1 (nn rfl))))).trans ((hF_80 2 j (fun h => absurd h.1 (nn rfl))).trans ((hF_29 2 j (fun h => absurd h.1 (nn rfl))).trans (hFm 2 j (fun q => q.elim (fun h => absurd h.1 (nn rfl)) (fun q => q.elim (fun h => absurd h.1 (nn rfl)) (fun q => q.elim (fun h => absurd h.1 (nn rfl)) (fun q => q.elim (fun h => absurd h.1 (pn0 hA rfl)) (fun q => q.elim (fun h => absurd h.1 (pn0 hA rfl)) (fun q => q.elim (fun h => absurd h.1 (pn0 hA rfl)) (fun q => q.elim (fun h => absurd h.1 (pn0 hA rfl)) (fun q => q.elim (fun h => absurd h (pn hA rfl rfl)) (fun q => q.elim (fun h => absurd h (pn hA rfl rfl)) (fun q => q.elim (fun h => absurd h (pn hA rfl rfl)) (fun q => q.elim (fun h => absurd h.1 (pn0 hA rfl)) (fun q => q.elim (fun h => absurd h.1 (pn0 hA rfl)) (fun q => q.elim (fun h => absurd h (pn hA rfl rfl)) (fun h => absurd h.1 (pn hA rfl rfl))))))))))))))))))).trans (hF j)) (fun j => ((hF_997 43 j (fun h => absurd h.1 (nn rfl))).trans ((hF_988 43 j (fun h => absurd h.1 (nn rfl))).trans ((hF_981 43 j (fun h => absurd h.1 (nn rfl))).trans (hFc 43 j (fun q => q.elim (fun h => absurd h.1 (nn rfl)) (fun q => q.elim (fun h => absurd h.1 (nn rfl)) (fun q => q.elim (fun h => absurd h.1 (nn rfl)) (fun q => q.elim (fun h => absurd h.1 (nn rfl)) (fun q => q.elim (fun h => absurd h.1 (nn rfl)) (fun q => q.elim (fun h => absurd h.1 (nn rfl)) (fun q => q.elim (fun h => absurd h.1 (nn rfl)) (fun q => q.elim (fun h => absurd h (nn rfl)) (fun q => q.elim (fun h => absurd h (nn rfl)) (fun h => absurd h (nn rfl))))))))))))))).trans (hH j)) hU (by unfold Rt; omega) hG_965 (fun c_1026 hI_1027 hF_1028 hR_1030 h_1031 h_1032 h_1033 h_1034 => ?_))
                refine bk_inl ?_
                have h_1035 := ir_41_16 hI_1027
                have h_1036 := ir_p0_0 hI_963 hA
                have h_1037 := ir_41_17 hI_1027
                have h_1038 := ir_p0_1 hI_963 hA
                have h_1039 := ir_41_18 hI_1027
                have h_1040 := ir_p0_2 hI_963 hA
                have h_1041 := ir_41_19 hI_1027
                have h_1042 := ir_p0_3 hI_963 hA
                refine q_aload_n rfl rfl ?_
                refine v_bip rfl (by decide) ?_
                have kn_1043 : Hid (c_962 1 1 = e1) := (hF_964 1 1 (fun q => q.elim (fun h => absurd h.2 (ni rfl)) (fun q => q.elim (fun h => absurd h.2 (ni rfl)) (fun q => q.elim (fun h => absurd h.2 (ni rfl)) (fun q => q.elim (fun h => absurd h.1 (pn0 hA rfl)) (fun q => q.elim (fun h => absurd h.1 (pn0 hA rfl)) (fun q => q.elim (fun h => absurd h.1 (pn0 hA rfl)) (fun q => q.elim (fun h => absurd h.1 (pn0 hA rfl)) (fun q => q.elim (fun h => absurd h (pn hA rfl rfl)) (fun q => q.elim (fun h => absurd h (pn hA rfl rfl)) (fun h => absurd h (pn hA rfl rfl)))))))))))).trans (hid kn_1000)
                have kn_1044 : Hid (c_1026 41 3 = e1) := (hF_1028 41 3 (fun q => q.elim (fun h => absurd h.2 (ni rfl)) (fun q => q.elim (fun h => absurd h.2 (ni rfl)) (fun q => q.elim (fun h => absurd h.2 (ni rfl)) (fun q => q.elim (fun h => absurd h.2 (ni rfl)) (fun q => q.elim (fun h => absurd h.2 (ni rfl)) (fun q => q.elim (fun h => absurd h.2 (ni rfl)) (fun q => q.elim (fun h => absurd h.2 (ni rfl)) (fun q => q.elim (fun h => absurd h (nn rfl)) (fun q => q.elim (fun h => absurd h (nn rfl)) (fun h => absurd h (nn rfl)))))))))))).trans (hid kn_1001)
                have h_1045 := ir_1_2 hI_963
                refine v_cv rfl rfl rfl rfl (by decide) ⟨⟨rfl, rfl⟩, by decide, rfl⟩ (Nat.le_of_ble_eq_true rfl) (Nat.le_of_ble_eq_true rfl) (L_11_9 (m := c_962) (e1 := e1) (a9 := c_962 1 2) (F := F) (H := H) hI_1027 hI_963 hI_968 ((hid kn_1043)) ((hid kn_1044)) (rfl) (fun j => ((hF_964 2 j (fun q => q.elim (fun h => absurd h.1 (nn rfl)) (fun q => q.elim (fun h => absurd h.1 (nn rfl)) (fun q => q.elim (fun h => absurd h.1 (nn rfl)) (fun q => q.elim (fun h => absurd h.1 (pn0 hA rfl)) (fun q => q.elim (fun h => absurd h.1 (pn0 hA rfl)) (fun q => q.elim (fun h => absurd h.1 (pn0 hA rfl)) (fun q => q.elim (fun h => absurd h.1 (pn0 hA rfl)) (fun q => q.elim (fun h => absurd h (pn hA rfl rfl)) (fun q => q.elim (fun h => absurd h (pn hA rfl rfl)) (fun h => absurd h (pn hA rfl rfl)))))))))))).trans ((hF_105 2 j (fun q => q.elim (fun h => absurd h.1 (nn rfl)) (fun q => q.elim (fun h => absurd h.1 (nn rfl)) (fun h => absurd h.1 (nn rfl))))).trans ((hF_80 2 j (fun h => absurd h.1 (nn rfl))).trans ((hF_29 2 j (fun h => absurd h.1 (nn rfl))).trans (hFm 2 j (fun q => q.elim (fun h => absurd h.1 (nn rfl)) (fun q => q.elim (fun h => absurd h.1 (nn rfl)) (fun q => q.elim (fun h => absurd h.1 (nn rfl)) (fun q => q.elim (fun h => absurd h.1 (pn0 hA rfl)) (fun q => q.elim (fun h => absurd h.1 (pn0 hA rfl)) (fun q => q.elim (fun h => absurd h.1 (pn0 hA rfl)) (fun q => q.elim (fun h => absurd h.1 (pn0 hA rfl)) (fun q => q.elim (fun h => absurd h (pn hA rfl rfl)) (fun q => q.elim (fun h => absurd h (pn hA rfl rfl)) (fun q => q.elim (fun h => absurd h (pn hA rfl rfl)) (fun q => q.elim (fun h => absurd h.1 (pn0 hA rfl)) (fun q => q.elim (fun h => absurd h.1 (pn0 hA rfl)) (fun q => q.elim (fun h => absurd h (pn hA rfl rfl)) (fun h => absurd h.1 (pn hA rfl rfl)))))))))))))))))))).trans (hF j)) (fun j => ((hF_1028 43 j (fun q => q.elim (fun h => absurd h.1 (nn rfl)) (fun q => q.elim (fun h => absurd h.1 (nn rfl)) (fun q => q.elim (fun h => absurd h.1 (nn rfl)) (fun q => q.elim (fun h => absurd h.1 (nn rfl)) (fun q => q.elim (fun h => absurd h.1 (nn rfl)) (fun q => q.elim (fun h => absurd h.1 (nn rfl)) (fun q => q.elim (fun h => absurd h.1 (nn rfl)) (fun q => q.elim (fun h => absurd h (nn rfl)) (fun q => q.elim (fun h => absurd h (nn rfl)) (fun h => absurd h (nn rfl)))))))))))).trans ((hF_997 43 j (fun h => absurd h.1 (nn rfl))).trans ((hF_988 43 j (fun h => absurd h.1 (nn rfl))).trans ((hF_981 43 j (fun h => absurd h.1 (nn rfl))).trans (hFc 43 j (fun q => q.elim (fun h => absurd h.1 (nn rfl)) (fun q => q.elim (fun h => absurd h.1 (nn rfl)) (fun q => q.elim (fun h => absurd h.1 (nn rfl)) (fun q => q.elim (fun h => absurd h.1 (nn rfl)) (fun q => q.elim (fun h => absurd h.1 (nn rfl)) (fun q => q.elim (fun h => absurd h.1 (nn rfl)) (fun q => q.elim (fun h => absurd h.1 (nn rfl)) (fun q => q.elim (fun h => absurd h (nn rfl)) (fun q => q.elim (fun h => absurd h (nn rfl)) (fun h => absurd h (nn rfl)))))))))))))))).trans (hH j)) hU hR_1030 hG_970 (fun c_1046 hI_1047 hF_1048 hR_1050 h_1051 => ?_))
                refine bk_inl ?_
                have h_1052 := ir_1_2 hI_968
                refine v_iinc (v := v + 1) rfl rfl (by decide) (by omega) ?_
                refine q_goto (t := 44) rfl (by decide) ?_
                refine Wp_ls [(0, .ref 41), (1, vi a1), (2, vi (v + 1))] (lsub_cons rfl (lsub_cons rfl (lsub_cons rfl lsub_nil))) ?_
                have h_1053 := ir_41_4 hI_1047
                have h_1054 := ir_1_5 hI_968
                have h_1055 := ir_41_5 hI_1047
                have h_1056 := ir_41_6 hI_1047
                have h_1057 := rt_ok hR_1050 (by omega)
                have hro_hR_1050 := rt_ok hR_1050 (by omega)
                have kn_1058 : Hid (c_967 A 0 = c_962 A 0) := hF_969 A 0 (fun q => q.elim (fun h => absurd h.1 (np0 hA rfl)) (fun q => q.elim (fun h => absurd h.1 (np0 hA rfl)) (fun h => absurd h.1 (np0 hA rfl))))
                have kn_1059 : Hid (c_1046 41 16 = c_1026 41 16) := hF_1048 41 16 (fun q => q.elim (fun h => absurd h.2 (ni rfl)) (fun q => q.elim (fun h => absurd h.2 (ni rfl)) (fun h => absurd h.2 (ni rfl))))
                have kn_1060 : Hid (c_967 A 1 = c_962 A 1) := hF_969 A 1 (fun q => q.elim (fun h => absurd h.1 (np0 hA rfl)) (fun q => q.elim (fun h => absurd h.1 (np0 hA rfl)) (fun h => absurd h.1 (np0 hA rfl))))
                have kn_1061 : Hid (c_1046 41 17 = c_1026 41 17) := hF_1048 41 17 (fun q => q.elim (fun h => absurd h.2 (ni rfl)) (fun q => q.elim (fun h => absurd h.2 (ni rfl)) (fun h => absurd h.2 (ni rfl))))
                have kn_1062 : Hid (c_967 A 2 = c_962 A 2) := hF_969 A 2 (fun q => q.elim (fun h => absurd h.1 (np0 hA rfl)) (fun q => q.elim (fun h => absurd h.1 (np0 hA rfl)) (fun h => absurd h.1 (np0 hA rfl))))
                have kn_1063 : Hid (c_1046 41 18 = c_1026 41 18) := hF_1048 41 18 (fun q => q.elim (fun h => absurd h.2 (ni rfl)) (fun q => q.elim (fun h => absurd h.2 (ni rfl)) (fun h => absurd h.2 (ni rfl))))
                have kn_1064 : Hid (c_967 A 3 = c_962 A 3) := hF_969 A 3 (fun q => q.elim (fun h => absurd h.1 (np0 hA rfl)) (fun q => q.elim (fun h => absurd h.1 (np0 hA rfl)) (fun h => absurd h.1 (np0 hA rfl))))
                have kn_1065 : Hid (c_1046 41 19 = c_1026 41 19) := hF_1048 41 19 (fun q => q.elim (fun h => absurd h.2 (ni rfl)) (fun q => q.elim (fun h => absurd h.2 (ni rfl)) (fun h => absurd h.2 (ni rfl))))
                exact ih c_1046 c_967 (v + 1) (c_967 1 2) (c_962 A 0) (c_962 A 1) (c_962 A 2) (c_962 A 3) hI_1047 (fun a j hm => (hF_1048 a j (fun q => q.elim (fun h => hm (Or.inl h)) (fun q => q.elim (fun h => hm (Or.inr (Or.inl h))) (fun h => hm (Or.inr (Or.inr (Or.inl h))))))).trans ((hF_1028 a j (fun q => q.elim (fun h => hm (Or.inl h)) (fun q => q.elim (fun h => hm (Or.inr (Or.inl h))) (fun q => q.elim (fun h => hm (Or.inr (Or.inr (Or.inl h)))) (fun q => q.elim (fun h => hm (Or.inr (Or.inr (Or.inr (Or.inl h))))) (fun q => q.elim (fun h => hm (Or.inr (Or.inr (Or.inr (Or.inr (Or.inl h)))))) (fun q => q.elim (fun h => hm (Or.inr (Or.inr (Or.inr (Or.inr (Or.inr (Or.inl h))))))) (fun q => q.elim (fun h => hm (Or.inr (Or.inr (Or.inr (Or.inr (Or.inr (Or.inr (Or.inl h)))))))) (fun q => q.elim (fun h => hm (Or.inr (Or.inr (Or.inr (Or.inr (Or.inr (Or.inr (Or.inr (Or.inl h))))))))) (fun q => q.elim (fun h => hm (Or.inr (Or.inr (Or.inr (Or.inr (Or.inr (Or.inr (Or.inr (Or.inr (Or.inl h)))))))))) (fun h => hm (Or.inr (Or.inr (Or.inr (Or.inr (Or.inr (Or.inr (Or.inr (Or.inr (Or.inr h)))))))))))))))))))).trans ((hF_997 a j (fun h => hm (Or.inl h))).trans ((hF_988 a j (fun h => hm (Or.inl h))).trans ((hF_981 a j (fun h => hm (Or.inl h))).trans (hFc a j (fun q => q.elim (fun h => hm (Or.inl h)) (fun q => q.elim (fun h => hm (Or.inr (Or.inl h))) (fun q => q.elim (fun h => hm (Or.inr (Or.inr (Or.inl h)))) (fun q => q.elim (fun h => hm (Or.inr (Or.inr (Or.inr (Or.inl h))))) (fun q => q.elim (fun h => hm (Or.inr (Or.inr (Or.inr (Or.inr (Or.inl h)))))) (fun q => q.elim (fun h => hm (Or.inr (Or.inr (Or.inr (Or.inr (Or.inr (Or.inl h))))))) (fun q => q.elim (fun h => hm (Or.inr (Or.inr (Or.inr (Or.inr (Or.inr (Or.inr (Or.inl h)))))))) (fun q => q.elim (fun h => hm (Or.inr (Or.inr (Or.inr (Or.inr (Or.inr (Or.inr (Or.inr (Or.inl h))))))))) (fun q => q.elim (fun h => hm (Or.inr (Or.inr (Or.inr (Or.inr (Or.inr (Or.inr (Or.inr (Or.inr (Or.inl h)))))))))) (fun h => hm (Or.inr (Or.inr (Or.inr (Or.inr (Or.inr (Or.inr (Or.inr (Or.inr (Or.inr h))))))))))))))))))))))))) hI_968 (fun a j hm => (hF_969 a j (fun q => q.elim (fun h => hm (Or.inl h)) (fun q => q.elim (fun h => hm (Or.inr (Or.inl h))) (fun h => hm (Or.inr (Or.inr (Or.inl h))))))).trans ((hF_964 a j (fun q => q.elim (fun h => hm (Or.inl h)) (fun q => q.elim (fun h => hm (Or.inr (Or.inl h))) (fun q => q.elim (fun h => hm (Or.inr (Or.inr (Or.inl h)))) (fun q => q.elim (fun h => hm (Or.inr (Or.inr (Or.inr (Or.inl h))))) (fun q => q.elim (fun h => hm (Or.inr (Or.inr (Or.inr (Or.inr (Or.inl h)))))) (fun q => q.elim (fun h => hm (Or.inr (Or.inr (Or.inr (Or.inr (Or.inr (Or.inl h))))))) (fun q => q.elim (fun h => hm (Or.inr (Or.inr (Or.inr (Or.inr (Or.inr (Or.inr (Or.inl h)))))))) (fun q => q.elim (fun h => hm (Or.inr (Or.inr (Or.inr (Or.inr (Or.inr (Or.inr (Or.inr (Or.inl h))))))))) (fun q => q.elim (fun h => hm (Or.inr (Or.inr (Or.inr (Or.inr (Or.inr (Or.inr (Or.inr (Or.inr (Or.inl h)))))))))) (fun h => hm (Or.inr (Or.inr (Or.inr (Or.inr (Or.inr (Or.inr (Or.inr (Or.inr (Or.inr (Or.inl h))))))))))))))))))))).trans ((hF_105 a j (fun q => q.elim (fun h => hm (Or.inl h)) (fun q => q.elim (fun h => hm (Or.inr (Or.inl h))) (fun h => hm (Or.inr (Or.inr (Or.inl h))))))).trans ((hF_80 a j (fun h => hm (Or.inl h))).trans ((hF_29 a j (fun h => hm (Or.inl h))).trans (hFm a j (fun q => q.elim (fun h => hm (Or.inl h)) (fun q => q.elim (fun h => hm (Or.inr (Or.inl h))) (fun q => q.elim (fun h => hm (Or.inr (Or.inr (Or.inl h)))) (fun q => q.elim (fun h => hm (Or.inr (Or.inr (Or.inr (Or.inl h))))) (fun q => q.elim (fun h => hm (Or.inr (Or.inr (Or.inr (Or.inr (Or.inl h)))))) (fun q => q.elim (fun h => hm (Or.inr (Or.inr (Or.inr (Or.inr (Or.inr (Or.inl h))))))) (fun q => q.elim (fun h => hm (Or.inr (Or.inr (Or.inr (Or.inr (Or.inr (Or.inr (Or.inl h)))))))) (fun q => q.elim (fun h => hm (Or.inr (Or.inr (Or.inr (Or.inr (Or.inr (Or.inr (Or.inr (Or.inl h))))))))) (fun q => q.elim (fun h => hm (Or.inr (Or.inr (Or.inr (Or.inr (Or.inr (Or.inr (Or.inr (Or.inr (Or.inl h)))))))))) (fun q => q.elim (fun h => hm (Or.inr (Or.inr (Or.inr (Or.inr (Or.inr (Or.inr (Or.inr (Or.inr (Or.inr (Or.inl h))))))))))) (fun q => q.elim (fun h => hm (Or.inr (Or.inr (Or.inr (Or.inr (Or.inr (Or.inr (Or.inr (Or.inr (Or.inr (Or.inr (Or.inl h)))))))))))) (fun q => q.elim (fun h => hm (Or.inr (Or.inr (Or.inr (Or.inr (Or.inr (Or.inr (Or.inr (Or.inr (Or.inr (Or.inr (Or.inr (Or.inl h))))))))))))) (fun q => q.elim (fun h => hm (Or.inr (Or.inr (Or.inr (Or.inr (Or.inr (Or.inr (Or.inr (Or.inr (Or.inr (Or.inr (Or.inr (Or.inr (Or.inl h)))))))))))))) (fun h => hm (Or.inr (Or.inr (Or.inr (Or.inr (Or.inr (Or.inr (Or.inr (Or.inr (Or.inr (Or.inr (Or.inr (Or.inr (Or.inr h))))))))))))))))))))))))))))))))) ⟨by omega, by omega⟩ ⟨by omega, by omega⟩ ⟨by omega, by omega⟩ ⟨by omega, by omega⟩ ⟨by omega, by omega⟩ ⟨by omega, by omega⟩ (rfl) (hro_hR_1050.2.2.1) ((hid kn_1058)) ((show _ = c_1026 41 16 from (hid kn_1059)).trans (by omega)) ((hid kn_1060)) ((show _ = c_1026 41 17 from (hid kn_1061)).trans (by omega)) ((hid kn_1062)) ((show _ = c_1026 41 18 from (hid kn_1063)).trans (by omega)) ((hid kn_1064)) ((show _ = c_1026 41 19 from (hid kn_1065)).trans (by omega)) ((show _ = c_967 1 4 from rfl).trans (by omega)) (hro_hR_1050.2.1) ((show _ = c_967 1 5 from rfl).trans (by omega)) hG_973 (by omega)
              · skip
                refine q_iload_n rfl rfl ?_
                refine v_bip rfl (by decide) ?_
                refine v_ic_gt_f (t := 85) rfl (by decide) (by omega) ?_
                refine q_aload_n rfl rfl ?_
                refine v_cv rfl rfl rfl rfl (by decide) ⟨⟨rfl, rfl⟩, by decide, rfl⟩ (Nat.le_of_ble_eq_true rfl) (Nat.le_of_ble_eq_true rfl) ?_
                refine q_aload_n rfl rfl ?_
                refine v_cv rfl rfl rfl rfl (by decide) ⟨⟨rfl, rfl⟩, by decide, rfl⟩ (Nat.le_of_ble_eq_true rfl) (Nat.le_of_ble_eq_true rfl) ?_
                refine q_aload_n rfl rfl ?_
                refine v_gi (z := 4) (v := c_967 1 4) rfl rfl rfl (by decide) rfl rfl rfl ?_
                refine v_if_ne_t (t := 11) rfl (by decide) (by omega) ?_
                refine q_iconst rfl ?_
                refine v_zret rfl rfl (by decide) ?_
                refine bk_inl ?_
                refine v_if_eq_t (t := 22) rfl (by decide) (by decide) ?_
                refine q_iconst rfl ?_
                refine v_zret rfl rfl (by decide) ?_
                refine bk_inl ?_
                refine v_if_eq_t (t := 85) rfl (by decide) (by decide) ?_
                refine q_vret rfl rfl ?_
                intro hE_1066
                have hW : Wd P Q P P c_967 = Wd P Q P P m9 := (Prod.mk.inj (Prod.mk.inj hE_1066).2).1
                have h_1067 := ir_1_4 hJ9
                have h_1068 : m9 1 4 = c_967 1 4 := wd_fv (z := 4) 4 rfl hW rfl rfl rfl rfl (by decide) rfl ⟨by omega, by omega⟩ ⟨by omega, by omega⟩
                have h_1069 := ir_1_2 hI_968
                have h_1070 := ir_1_2 hJ9
                have h_1071 : m9 1 2 = c_967 1 2 := wd_fv (z := 2) 2 rfl hW rfl rfl rfl rfl (by decide) rfl ⟨by omega, by omega⟩ ⟨by omega, by omega⟩
                have h_1072 := ir_1_5 hI_968
                have h_1073 := ir_1_5 hJ9
                have h_1074 : m9 1 5 = c_967 1 5 := wd_fv (z := 5) 5 rfl hW rfl rfl rfl rfl (by decide) rfl ⟨by omega, by omega⟩ ⟨by omega, by omega⟩
                have h_1075 := ir_p0_0 hI_963 hA
                have kn_1076 : Hid (c_967 A 0 = c_962 A 0) := hF_969 A 0 (fun q => q.elim (fun h => absurd h.1 (np0 hA rfl)) (fun q => q.elim (fun h => absurd h.1 (np0 hA rfl)) (fun h => absurd h.1 (np0 hA rfl))))
                have h_1077 := ir_p0_0 hJ9 hA
                have h_1078 : m9 A 0 = c_962 A 0 := wd_fv (z := 0) 0 rfl hW (ck_p0 hA) (ck_p0 hA) rfl rfl (by omega) (hid kn_1076) ⟨by omega, by omega⟩ ⟨by omega, by omega⟩
                have h_1079 := ir_p0_1 hI_963 hA
                have kn_1080 : Hid (c_967 A 1 = c_962 A 1) := hF_969 A 1 (fun q => q.elim (fun h => absurd h.1 (np0 hA rfl)) (fun q => q.elim (fun h => absurd h.1 (np0 hA rfl)) (fun h => absurd h.1 (np0 hA rfl))))
                have h_1081 := ir_p0_1 hJ9 hA
                have h_1082 : m9 A 1 = c_962 A 1 := wd_fv (z := 1) 1 rfl hW (ck_p0 hA) (ck_p0 hA) rfl rfl (by omega) (hid kn_1080) ⟨by omega, by omega⟩ ⟨by omega, by omega⟩
                have h_1083 := ir_p0_2 hI_963 hA
                have kn_1084 : Hid (c_967 A 2 = c_962 A 2) := hF_969 A 2 (fun q => q.elim (fun h => absurd h.1 (np0 hA rfl)) (fun q => q.elim (fun h => absurd h.1 (np0 hA rfl)) (fun h => absurd h.1 (np0 hA rfl))))
                have h_1085 := ir_p0_2 hJ9 hA
                have h_1086 : m9 A 2 = c_962 A 2 := wd_fv (z := 2) 2 rfl hW (ck_p0 hA) (ck_p0 hA) rfl rfl (by omega) (hid kn_1084) ⟨by omega, by omega⟩ ⟨by omega, by omega⟩
                have h_1087 := ir_p0_3 hI_963 hA
                have kn_1088 : Hid (c_967 A 3 = c_962 A 3) := hF_969 A 3 (fun q => q.elim (fun h => absurd h.1 (np0 hA rfl)) (fun q => q.elim (fun h => absurd h.1 (np0 hA rfl)) (fun h => absurd h.1 (np0 hA rfl))))
                have h_1089 := ir_p0_3 hJ9 hA
                have h_1090 : m9 A 3 = c_962 A 3 := wd_fv (z := 3) 3 rfl hW (ck_p0 hA) (ck_p0 hA) rfl rfl (by omega) (hid kn_1088) ⟨by omega, by omega⟩ ⟨by omega, by omega⟩
                refine q_aload_n rfl rfl ?_
                refine v_cv rfl rfl rfl rfl (by decide) ⟨⟨rfl, rfl⟩, by decide, rfl⟩ (Nat.le_of_ble_eq_true rfl) (Nat.le_of_ble_eq_true rfl) ?_
                refine q_aload_n rfl rfl ?_
                refine v_gi (z := 5) (v := (-1)) rfl rfl rfl (by decide) rfl rfl (hc_1) ?_
                refine q_iconst rfl ?_
                refine v_ic_ne_f (t := 12) rfl (by decide) (by decide) ?_
                refine q_iconst rfl ?_
                refine q_goto (t := 13) rfl (by decide) ?_
                refine v_zret rfl rfl (by decide) ?_
                refine bk_inl ?_
                refine v_if_eq_f (t := 136) rfl (by decide) (by decide) ?_
                refine q_aload_n rfl rfl ?_
                refine v_cv rfl rfl rfl rfl (by decide) ⟨⟨rfl, rfl⟩, by decide, rfl⟩ (Nat.le_of_ble_eq_true rfl) (Nat.le_of_ble_eq_true rfl) ?_
                refine q_aload_n rfl rfl ?_
                have kn_1091 : Hid (c2 41 3 = e1) := (hFc 41 3 (fun q => q.elim (fun h => absurd h.2 (ni rfl)) (fun q => q.elim (fun h => absurd h.2 (ni rfl)) (fun q => q.elim (fun h => absurd h.2 (ni rfl)) (fun q => q.elim (fun h => absurd h.2 (ni rfl)) (fun q => q.elim (fun h => absurd h.2 (ni rfl)) (fun q => q.elim (fun h => absurd h.2 (ni rfl)) (fun q => q.elim (fun h => absurd h.2 (ni rfl)) (fun q => q.elim (fun h => absurd h (nn rfl)) (fun q => q.elim (fun h => absurd h (nn rfl)) (fun h => absurd h (nn rfl)))))))))))).trans (hr_e1)
                have h_1092 : -2147483648 ≤ (H (nx F e1 a)) ∧ (H (nx F e1 a)) ≤ 2147483647 := by rw [← hH (nx F e1 a)]; exact ir_43 hI (nx F e1 a)
                have h_1093 := hU (nx F e1 a) (by omega) (by omega)
                have h_1094 := hb_or (b := H) (e := e1) (r := (nx F e1 a))
                have h_1095 := hb_bd (b := H) (e := e1) (r := (nx F e1 a)) (lo := -2147483648) (hi := 2147483647) ⟨by omega, by omega⟩ (by decide)
                refine v_cv rfl rfl rfl rfl (by decide) ⟨⟨rfl, rfl⟩, by decide, rfl⟩ (Nat.le_of_ble_eq_true rfl) (Nat.le_of_ble_eq_true rfl) (f_154 (e1 := e1) (a9 := a) (B := H) (r8 := (nx F e1 a)) (r := (hb H e1 (nx F e1 a))) hI2 ((hid kn_1091)) ((hr_a)) (fun j => (hFc 43 j (fun q => q.elim (fun h => absurd h.1 (nn rfl)) (fun q => q.elim (fun h => absurd h.1 (nn rfl)) (fun q => q.elim (fun h => absurd h.1 (nn rfl)) (fun q => q.elim (fun h => absurd h.1 (nn rfl)) (fun q => q.elim (fun h => absurd h.1 (nn rfl)) (fun q => q.elim (fun h => absurd h.1 (nn rfl)) (fun q => q.elim (fun h => absurd h.1 (nn rfl)) (fun q => q.elim (fun h => absurd h (nn rfl)) (fun q => q.elim (fun h => absurd h (nn rfl)) (fun h => absurd h (nn rfl)))))))))))).trans (hH j)) ((nx_tr hU (by omega) (by omega)).trans (rfl)) rfl (fun c_1096 hI_1097 hF_1098 h_1099 => ?_))
                refine bk_inl ?_
                refine q_pop rfl rfl ?_
                refine q_aload_n rfl rfl ?_
                refine v_gi (z := 4) (v := (nx F e1 a)) rfl rfl rfl (by decide) rfl rfl (h_1099) ?_
                refine q_aload_n rfl rfl ?_
                have kn_1100 : Hid (c_1096 41 3 = e1) := (hF_1098 41 3 (fun h => absurd h.2 (ni rfl))).trans (hid kn_1091)
                refine v_gi (z := 3) (v := e1) rfl rfl rfl (by decide) rfl rfl (hid kn_1100) ?_
                refine v_ic_ge_f (t := 20) rfl (by decide) (by omega) ?_
                refine q_iconst rfl ?_
                refine q_goto (t := 21) rfl (by decide) ?_
                refine v_zret rfl rfl (by decide) ?_
                refine bk_inl ?_
                refine v_if_eq_f (t := 136) rfl (by decide) (by decide) ?_
                refine q_aload_n rfl rfl ?_
                have h_1101 := wv_bd (b := F) (r := (nx F e1 a)) (l := (ln F e1 (nx F e1 a))) (fun j h1 h2 => ⟨(ln_in (e := e1) (a := (nx F e1 a)) h1 (by omega)).1, (ln_in (e := e1) (a := (nx F e1 a)) h1 (by omega)).2.1⟩)
                have h_1102 := wr8_2 (b := F) (r := (nx F e1 a)) (l := (ln F e1 (nx F e1 a))) (by omega) (fun j h1 h2 => ⟨(ln_in (e := e1) (a := (nx F e1 a)) h1 (by omega)).1, (ln_in (e := e1) (a := (nx F e1 a)) h1 (by omega)).2.1⟩) (by omega)
                refine v_cv rfl rfl rfl rfl (by decide) ⟨⟨rfl, rfl⟩, by decide, rfl⟩ (Nat.le_of_ble_eq_true rfl) (Nat.le_of_ble_eq_true rfl) (f_157 (e1 := e1) (a9 := (nx F e1 a)) (B := H) (r8 := (nx F e1 a)) (L8 := (ln F e1 (nx F e1 a))) (W8 := (wv F (nx F e1 a) (ln F e1 (nx F e1 a)))) hI_1097 ((hid kn_1100)) ((h_1099)) (fun j => ((hF_1098 43 j (fun h => absurd h.1 (nn rfl))).trans (hFc 43 j (fun q => q.elim (fun h => absurd h.1 (nn rfl)) (fun q => q.elim (fun h => absurd h.1 (nn rfl)) (fun q => q.elim (fun h => absurd h.1 (nn rfl)) (fun q => q.elim (fun h => absurd h.1 (nn rfl)) (fun q => q.elim (fun h => absurd h.1 (nn rfl)) (fun q => q.elim (fun h => absurd h.1 (nn rfl)) (fun q => q.elim (fun h => absurd h.1 (nn rfl)) (fun q => q.elim (fun h => absurd h (nn rfl)) (fun q => q.elim (fun h => absurd h (nn rfl)) (fun h => absurd h (nn rfl))))))))))))).trans (hH j)) ((nx_tr hU (by omega) (by omega)).trans ((nx_z (by omega)))) ((ln_tr hU (by omega) (by omega)).trans (rfl)) ((wv_tr hU (by omega) (by omega) (fun j h1 h2 => ⟨(ln_in (e := e1) (a := (nx F e1 a)) h1 (by omega)).1, (ln_in (e := e1) (a := (nx F e1 a)) h1 (by omega)).2.1⟩)).trans (rfl)) (fun c_1103 hI_1104 hF_1105 hz_1106 => ?_))
                refine bk_inl ?_
                refine q_istore_n rfl (by decide) ?_
                refine q_iload_n rfl rfl ?_
                refine q_call rfl rfl rfl rfl ?_
                refine q_iload_n rfl rfl ?_
                refine q_ldc_s rfl rfl rfl (by decide) ?_
                refine q_call rfl rfl rfl rfl (s_158_16 ?_)
                refine bk_inl ?_
                refine v_ic_eq_f (t := 36) rfl (by decide) (by omega) ?_
                refine q_iload_n rfl rfl ?_
                refine q_ldc_s rfl rfl rfl (by decide) ?_
                refine q_call rfl rfl rfl rfl (s_158_17 ?_)
                refine bk_inl ?_
                refine v_ic_eq_f (t := 36) rfl (by decide) (by omega) ?_
                refine q_iload_n rfl rfl ?_
                refine q_ldc_s rfl rfl rfl (by decide) ?_
                refine q_call rfl rfl rfl rfl (s_158_18 ?_)
                refine bk_inl ?_
                refine v_ic_eq_t (t := 36) rfl (by decide) (by omega) ?_
                refine q_iconst rfl ?_
                refine q_goto (t := 41) rfl (by decide) ?_
                refine v_zret rfl rfl (by decide) ?_
                refine bk_inl ?_
                refine v_if_ne_t (t := 82) rfl (by decide) (by decide) ?_
                refine q_iload_n rfl rfl ?_
                refine v_bip rfl (by decide) ?_
                refine v_ic_eq_f (t := 96) rfl (by decide) (by omega) ?_
                refine q_aload_n rfl rfl ?_
                refine q_iload_n rfl rfl ?_
                refine v_cv rfl rfl rfl rfl (by decide) ⟨⟨rfl, rfl⟩, by decide, rfl⟩ (Nat.le_of_ble_eq_true rfl) (Nat.le_of_ble_eq_true rfl) ?_
                refine q_iload_n rfl rfl ?_
                refine q_ldc_s rfl rfl rfl (by decide) ?_
                refine q_call rfl rfl rfl rfl (s_158_16 ?_)
                refine bk_inl ?_
                refine v_ic_ne_t (t := 26) rfl (by decide) (by omega) ?_
                refine q_iload_n rfl rfl ?_
                refine q_ldc_s rfl rfl rfl (by decide) ?_
                refine q_call rfl rfl rfl rfl (s_158_17 ?_)
                refine bk_inl ?_
                refine v_ic_ne_t (t := 51) rfl (by decide) (by omega) ?_
                refine q_iload_n rfl rfl ?_
                refine q_ldc_s rfl rfl rfl (by decide) ?_
                refine q_call rfl rfl rfl rfl (s_158_18 ?_)
                refine bk_inl ?_
                refine v_ic_ne_f (t := 72) rfl (by decide) (by omega) ?_
                refine q_aload_n rfl rfl ?_
                have kn_1107 : Hid (c_1096 41 18 = si) := (hF_1098 41 18 (fun h => absurd h.2 (ni rfl))).trans (hr_si)
                have kn_1108 : Hid (c_1103 41 18 = si) := (hF_1105 41 18 (fun h => absurd h.2 (ni rfl))).trans (hid kn_1107)
                refine v_gi (z := 18) (v := si) rfl rfl rfl (by decide) rfl rfl (hid kn_1108) ?_
                refine q_iconst rfl ?_
                refine v_ic_ne_t (t := 72) rfl (by decide) (by omega) ?_
                refine q_iconst rfl ?_
                refine v_zret rfl rfl (by decide) ?_
                refine bk_inl ?_
                refine v_if_eq_t (t := 105) rfl (by decide) (by decide) ?_
                refine q_aload_n rfl rfl ?_
                refine v_cv rfl rfl rfl rfl (by decide) ⟨⟨rfl, rfl⟩, by decide, rfl⟩ (Nat.le_of_ble_eq_true rfl) (Nat.le_of_ble_eq_true rfl) ?_
                refine q_aload_n rfl rfl ?_
                have kn_1109 : Hid (c_1096 41 5 = (-1)) := (hF_1098 41 5 (fun h => absurd h.2 (ni rfl))).trans (hc_1)
                have kn_1110 : Hid (c_1103 41 5 = (-1)) := (hF_1105 41 5 (fun h => absurd h.2 (ni rfl))).trans (hid kn_1109)
                refine v_gi (z := 5) (v := (-1)) rfl rfl rfl (by decide) rfl rfl (hid kn_1110) ?_
                refine q_iconst rfl ?_
                refine v_ic_ne_f (t := 12) rfl (by decide) (by decide) ?_
                refine q_iconst rfl ?_
                refine q_goto (t := 13) rfl (by decide) ?_
                refine v_zret rfl rfl (by decide) ?_
                refine bk_inl ?_
                refine v_if_ne_t (t := 115) rfl (by decide) (by decide) ?_
                refine q_aload_n rfl rfl ?_
                have kn_1111 : Hid (c_1103 41 3 = e1) := (hF_1105 41 3 (fun h => absurd h.2 (ni rfl))).trans (hid kn_1100)
                refine v_cv rfl rfl rfl rfl (by decide) ⟨⟨rfl, rfl⟩, by decide, rfl⟩ (Nat.le_of_ble_eq_true rfl) (Nat.le_of_ble_eq_true rfl) (f_159 (e1 := e1) (a9 := (nx F e1 a)) (B := H) (L8 := (ln F e1 (nx F e1 a))) hI_1104 ((hid kn_1111)) ((hz_1106)) (fun j => ((hF_1105 43 j (fun h => absurd h.1 (nn rfl))).trans ((hF_1098 43 j (fun h => absurd h.1 (nn rfl))).trans (hFc 43 j (fun q => q.elim (fun h => absurd h.1 (nn rfl)) (fun q => q.elim (fun h => absurd h.1 (nn rfl)) (fun q => q.elim (fun h => absurd h.1 (nn rfl)) (fun q => q.elim (fun h => absurd h.1 (nn rfl)) (fun q => q.elim (fun h => absurd h.1 (nn rfl)) (fun q => q.elim (fun h => absurd h.1 (nn rfl)) (fun q => q.elim (fun h => absurd h.1 (nn rfl)) (fun q => q.elim (fun h => absurd h (nn rfl)) (fun q => q.elim (fun h => absurd h (nn rfl)) (fun h => absurd h (nn rfl)))))))))))))).trans (hH j)) ((ln_tr hU (by omega) (by omega)).trans (rfl)) (fun c_1112 hI_1113 hF_1114 hz_1115 => ?_))
                refine bk_inl ?_
                refine q_aload_n rfl rfl ?_
                refine q_iload_n rfl rfl ?_
                have hw_1116 : (wv F (nx F e1 a) (ln F e1 (nx F e1 a))) = 20223685 := by omega
                rw [hw_1116]
                have kn_1117 : Hid (c_103 1 1 = e1) := (hF_105 1 1 (fun q => q.elim (fun h => absurd h.2 (ni rfl)) (fun q => q.elim (fun h => absurd h.2 (ni rfl)) (fun h => absurd h.2 (ni rfl))))).trans (hid kn_82)
                have kn_1118 : Hid (c_1112 41 3 = e1) := (hF_1114 41 3 (fun h => absurd h.2 (ni rfl))).trans (hid kn_1111)
                have kn_1119 : Hid (c_1096 41 16 = jr) := (hF_1098 41 16 (fun h => absurd h.2 (ni rfl))).trans (hr_jr)
                have kn_1120 : Hid (c_1103 41 16 = jr) := (hF_1105 41 16 (fun h => absurd h.2 (ni rfl))).trans (hid kn_1119)
                have kn_1121 : Hid (c_1112 41 16 = jr) := (hF_1114 41 16 (fun h => absurd h.2 (ni rfl))).trans (hid kn_1120)
                have kn_1122 : Hid (c_1096 41 17 = st) := (hF_1098 41 17 (fun h => absurd h.2 (ni rfl))).trans (hr_st)
                have kn_1123 : Hid (c_1103 41 17 = st) := (hF_1105 41 17 (fun h => absurd h.2 (ni rfl))).trans (hid kn_1122)
                have kn_1124 : Hid (c_1112 41 17 = st) := (hF_1114 41 17 (fun h => absurd h.2 (ni rfl))).trans (hid kn_1123)
                have kn_1125 : Hid (c_1112 41 18 = si) := (hF_1114 41 18 (fun h => absurd h.2 (ni rfl))).trans (hid kn_1108)
                have kn_1126 : Hid (c_27 A 3 = du) := (hF_29 A 3 (fun h => absurd h.1 (np0 hA rfl))).trans (hg_du)
                have kn_1127 : Hid (c_78 A 3 = du) := (hF_80 A 3 (fun h => absurd h.1 (np0 hA rfl))).trans (hid kn_1126)
                have kn_1128 : Hid (c_103 A 3 = du) := (hF_105 A 3 (fun q => q.elim (fun h => absurd h.1 (np0 hA rfl)) (fun q => q.elim (fun h => absurd h.1 (np0 hA rfl)) (fun h => absurd h.1 (np0 hA rfl))))).trans (hid kn_1127)
                have kn_1129 : Hid (c_1096 41 19 = du) := (hF_1098 41 19 (fun h => absurd h.2 (ni rfl))).trans (hr_du)
                have kn_1130 : Hid (c_1103 41 19 = du) := (hF_1105 41 19 (fun h => absurd h.2 (ni rfl))).trans (hid kn_1129)
                have kn_1131 : Hid (c_1112 41 19 = du) := (hF_1114 41 19 (fun h => absurd h.2 (ni rfl))).trans (hid kn_1130)
                have h_1132 : c_103 1 4 = 0 := (hz_109)
                have h_1133 : c_103 1 2 = (ln F e1 (nx F e1 a)) := (hz_108)
                have h_1134 : c_103 1 5 = (-1) := (hz_110)
                have kn_1135 : Hid (c_1112 41 5 = (-1)) := (hF_1114 41 5 (fun h => absurd h.2 (ni rfl))).trans (hid kn_1110)
                have h_1136 : c_1112 41 5 = (-1) := (hid kn_1135)
                have h_1137 : c_1112 41 4 = (ln F e1 (nx F e1 a)) := (hz_1115)
                have h_1138 := ir_41_6 hI2
                have kn_1139 : Hid (c_1096 41 6 = c2 41 6) := hF_1098 41 6 (fun h => absurd h.2 (ni rfl))
                have kn_1140 : Hid (c_1103 41 6 = c2 41 6) := (hF_1105 41 6 (fun h => absurd h.2 (ni rfl))).trans (hid kn_1139)
                have kn_1141 : Hid (c_1112 41 6 = c2 41 6) := (hF_1114 41 6 (fun h => absurd h.2 (ni rfl))).trans (hid kn_1140)
                have h_1142 : c_1112 41 6 = c2 41 6 := (hid kn_1141)
                refine v_cv rfl rfl rfl rfl (by decide) ⟨⟨rfl, rfl⟩, by decide, rfl⟩ (Nat.le_of_ble_eq_true rfl) (Nat.le_of_ble_eq_true rfl) (L_33_2 (m := c_103) (e1 := e1) (jr := jr) (st := st) (si := si) (du := du) (F := F) (H := H) hI_1113 hI_104 hI_963 hA (by omega) ((hid kn_1117)) ((hid kn_1118)) ((hid kn_955)) ((hid kn_1121)) ((hid kn_959)) ((hid kn_1124)) ((hid kn_950)) ((hid kn_1125)) ((hid kn_1128)) ((hid kn_1131)) (fun j => ((hF_105 2 j (fun q => q.elim (fun h => absurd h.1 (nn rfl)) (fun q => q.elim (fun h => absurd h.1 (nn rfl)) (fun h => absurd h.1 (nn rfl))))).trans ((hF_80 2 j (fun h => absurd h.1 (nn rfl))).trans ((hF_29 2 j (fun h => absurd h.1 (nn rfl))).trans (hFm 2 j (fun q => q.elim (fun h => absurd h.1 (nn rfl)) (fun q => q.elim (fun h => absurd h.1 (nn rfl)) (fun q => q.elim (fun h => absurd h.1 (nn rfl)) (fun q => q.elim (fun h => absurd h.1 (pn0 hA rfl)) (fun q => q.elim (fun h => absurd h.1 (pn0 hA rfl)) (fun q => q.elim (fun h => absurd h.1 (pn0 hA rfl)) (fun q => q.elim (fun h => absurd h.1 (pn0 hA rfl)) (fun q => q.elim (fun h => absurd h (pn hA rfl rfl)) (fun q => q.elim (fun h => absurd h (pn hA rfl rfl)) (fun q => q.elim (fun h => absurd h (pn hA rfl rfl)) (fun q => q.elim (fun h => absurd h.1 (pn0 hA rfl)) (fun q => q.elim (fun h => absurd h.1 (pn0 hA rfl)) (fun q => q.elim (fun h => absurd h (pn hA rfl rfl)) (fun h => absurd h.1 (pn hA rfl rfl))))))))))))))))))).trans (hF j)) (fun j => ((hF_1114 43 j (fun h => absurd h.1 (nn rfl))).trans ((hF_1105 43 j (fun h => absurd h.1 (nn rfl))).trans ((hF_1098 43 j (fun h => absurd h.1 (nn rfl))).trans (hFc 43 j (fun q => q.elim (fun h => absurd h.1 (nn rfl)) (fun q => q.elim (fun h => absurd h.1 (nn rfl)) (fun q => q.elim (fun h => absurd h.1 (nn rfl)) (fun q => q.elim (fun h => absurd h.1 (nn rfl)) (fun q => q.elim (fun h => absurd h.1 (nn rfl)) (fun q => q.elim (fun h => absurd h.1 (nn rfl)) (fun q => q.elim (fun h => absurd h.1 (nn rfl)) (fun q => q.elim (fun h => absurd h (nn rfl)) (fun q => q.elim (fun h => absurd h (nn rfl)) (fun h => absurd h (nn rfl))))))))))))))).trans (hH j)) hU (by unfold Rt; omega) hG_965 (fun c_1143 hI_1144 hF_1145 hR_1147 h_1148 h_1149 h_1150 h_1151 => ?_))
                refine bk_inl ?_
                have h_1152 := ir_41_16 hI_1144
                have h_1153 := ir_41_17 hI_1144
                have h_1154 := ir_41_18 hI_1144
                have h_1155 := ir_41_19 hI_1144
                refine q_aload_n rfl rfl ?_
                refine v_bip rfl (by decide) ?_
                have kn_1156 : Hid (c_962 1 1 = e1) := (hF_964 1 1 (fun q => q.elim (fun h => absurd h.2 (ni rfl)) (fun q => q.elim (fun h => absurd h.2 (ni rfl)) (fun q => q.elim (fun h => absurd h.2 (ni rfl)) (fun q => q.elim (fun h => absurd h.1 (pn0 hA rfl)) (fun q => q.elim (fun h => absurd h.1 (pn0 hA rfl)) (fun q => q.elim (fun h => absurd h.1 (pn0 hA rfl)) (fun q => q.elim (fun h => absurd h.1 (pn0 hA rfl)) (fun q => q.elim (fun h => absurd h (pn hA rfl rfl)) (fun q => q.elim (fun h => absurd h (pn hA rfl rfl)) (fun h => absurd h (pn hA rfl rfl)))))))))))).trans (hid kn_1117)
                have kn_1157 : Hid (c_1143 41 3 = e1) := (hF_1145 41 3 (fun q => q.elim (fun h => absurd h.2 (ni rfl)) (fun q => q.elim (fun h => absurd h.2 (ni rfl)) (fun q => q.elim (fun h => absurd h.2 (ni rfl)) (fun q => q.elim (fun h => absurd h.2 (ni rfl)) (fun q => q.elim (fun h => absurd h.2 (ni rfl)) (fun q => q.elim (fun h => absurd h.2 (ni rfl)) (fun q => q.elim (fun h => absurd h.2 (ni rfl)) (fun q => q.elim (fun h => absurd h (nn rfl)) (fun q => q.elim (fun h => absurd h (nn rfl)) (fun h => absurd h (nn rfl)))))))))))).trans (hid kn_1118)
                have h_1158 := ir_1_2 hI_963
                refine v_cv rfl rfl rfl rfl (by decide) ⟨⟨rfl, rfl⟩, by decide, rfl⟩ (Nat.le_of_ble_eq_true rfl) (Nat.le_of_ble_eq_true rfl) (L_11_9 (m := c_962) (e1 := e1) (a9 := c_962 1 2) (F := F) (H := H) hI_1144 hI_963 hI_968 ((hid kn_1156)) ((hid kn_1157)) (rfl) (fun j => ((hF_964 2 j (fun q => q.elim (fun h => absurd h.1 (nn rfl)) (fun q => q.elim (fun h => absurd h.1 (nn rfl)) (fun q => q.elim (fun h => absurd h.1 (nn rfl)) (fun q => q.elim (fun h => absurd h.1 (pn0 hA rfl)) (fun q => q.elim (fun h => absurd h.1 (pn0 hA rfl)) (fun q => q.elim (fun h => absurd h.1 (pn0 hA rfl)) (fun q => q.elim (fun h => absurd h.1 (pn0 hA rfl)) (fun q => q.elim (fun h => absurd h (pn hA rfl rfl)) (fun q => q.elim (fun h => absurd h (pn hA rfl rfl)) (fun h => absurd h (pn hA rfl rfl)))))))))))).trans ((hF_105 2 j (fun q => q.elim (fun h => absurd h.1 (nn rfl)) (fun q => q.elim (fun h => absurd h.1 (nn rfl)) (fun h => absurd h.1 (nn rfl))))).trans ((hF_80 2 j (fun h => absurd h.1 (nn rfl))).trans ((hF_29 2 j (fun h => absurd h.1 (nn rfl))).trans (hFm 2 j (fun q => q.elim (fun h => absurd h.1 (nn rfl)) (fun q => q.elim (fun h => absurd h.1 (nn rfl)) (fun q => q.elim (fun h => absurd h.1 (nn rfl)) (fun q => q.elim (fun h => absurd h.1 (pn0 hA rfl)) (fun q => q.elim (fun h => absurd h.1 (pn0 hA rfl)) (fun q => q.elim (fun h => absurd h.1 (pn0 hA rfl)) (fun q => q.elim (fun h => absurd h.1 (pn0 hA rfl)) (fun q => q.elim (fun h => absurd h (pn hA rfl rfl)) (fun q => q.elim (fun h => absurd h (pn hA rfl rfl)) (fun q => q.elim (fun h => absurd h (pn hA rfl rfl)) (fun q => q.elim (fun h => absurd h.1 (pn0 hA rfl)) (fun q => q.elim (fun h => absurd h.1 (pn0 hA rfl)) (fun q => q.elim (fun h => absurd h (pn hA rfl rfl)) (fun h => absurd h.1 (pn hA rfl rfl)))))))))))))))))))).trans (hF j)) (fun j => ((hF_1145 43 j (fun q => q.elim (fun h => absurd h.1 (nn rfl)) (fun q => q.elim (fun h => absurd h.1 (nn rfl)) (fun q => q.elim (fun h => absurd h.1 (nn rfl)) (fun q => q.elim (fun h => absurd h.1 (nn rfl)) (fun q => q.elim (fun h => absurd h.1 (nn rfl)) (fun q => q.elim (fun h => absurd h.1 (nn rfl)) (fun q => q.elim (fun h => absurd h.1 (nn rfl)) (fun q => q.elim (fun h => absurd h (nn rfl)) (fun q => q.elim (fun h => absurd h (nn rfl)) (fun h => absurd h (nn rfl)))))))))))).trans ((hF_1114 43 j (fun h => absurd h.1 (nn rfl))).trans ((hF_1105 43 j (fun h => absurd h.1 (nn rfl))).trans ((hF_1098 43 j (fun h => absurd h.1 (nn rfl))).trans (hFc 43 j (fun q => q.elim (fun h => absurd h.1 (nn rfl)) (fun q => q.elim (fun h => absurd h.1 (nn rfl)) (fun q => q.elim (fun h => absurd h.1 (nn rfl)) (fun q => q.elim (fun h => absurd h.1 (nn rfl)) (fun q => q.elim (fun h => absurd h.1 (nn rfl)) (fun q => q.elim (fun h => absurd h.1 (nn rfl)) (fun q => q.elim (fun h => absurd h.1 (nn rfl)) (fun q => q.elim (fun h => absurd h (nn rfl)) (fun q => q.elim (fun h => absurd h (nn rfl)) (fun h => absurd h (nn rfl)))))))))))))))).trans (hH j)) hU hR_1147 hG_970 (fun c_1159 hI_1160 hF_1161 hR_1163 h_1164 => ?_))
                refine bk_inl ?_
                refine v_iinc (v := v + 1) rfl rfl (by decide) (by omega) ?_
                refine q_goto (t := 44) rfl (by decide) ?_
                refine q_aload_n rfl rfl ?_
                refine v_cv rfl rfl rfl rfl (by decide) ⟨⟨rfl, rfl⟩, by decide, rfl⟩ (Nat.le_of_ble_eq_true rfl) (Nat.le_of_ble_eq_true rfl) ?_
                refine q_aload_n rfl rfl ?_
                have h_1165 := ir_41_5 hI_1160
                have h_1166 := ir_41_4 hI_1160
                have h_1167 := ir_41_6 hI_1160
                have h_1168 := rt_bad hR_1163 (by omega)
                have hrb_hR_1163 := rt_bad hR_1163 (by omega)
                refine v_gi (z := 5) (v := c_967 1 5) rfl rfl rfl (by decide) rfl rfl hrb_hR_1163.2.1 ?_
                refine q_iconst rfl ?_
                refine v_ic_ne_t (t := 12) rfl (by decide) (by omega) ?_
                refine q_iconst rfl ?_
                refine v_zret rfl rfl (by decide) ?_
                refine bk_inl ?_
                refine v_if_eq_t (t := 136) rfl (by decide) (by decide) ?_
                refine Wp_ls [(0, .ref 41), (1, vi a1)] (lsub_cons rfl (lsub_cons rfl lsub_nil)) ?_
                have h_1169 : c_1159 41 5 = c_967 1 5 := hrb_hR_1163.2.1
                have h_1170 : c_1159 41 6 = c_967 1 4 := hrb_hR_1163.2.2.2
                have kn_1171 : Hid (c_1159 41 16 = c_1143 41 16) := hF_1161 41 16 (fun q => q.elim (fun h => absurd h.2 (ni rfl)) (fun q => q.elim (fun h => absurd h.2 (ni rfl)) (fun h => absurd h.2 (ni rfl))))
                have h_1172 : c_1159 41 16 = c_1143 41 16 := (hid kn_1171)
                have kn_1173 : Hid (c_1159 41 17 = c_1143 41 17) := hF_1161 41 17 (fun q => q.elim (fun h => absurd h.2 (ni rfl)) (fun q => q.elim (fun h => absurd h.2 (ni rfl)) (fun h => absurd h.2 (ni rfl))))
                have h_1174 : c_1159 41 17 = c_1143 41 17 := (hid kn_1173)
                have kn_1175 : Hid (c_1159 41 18 = c_1143 41 18) := hF_1161 41 18 (fun q => q.elim (fun h => absurd h.2 (ni rfl)) (fun q => q.elim (fun h => absurd h.2 (ni rfl)) (fun h => absurd h.2 (ni rfl))))
                have h_1176 : c_1159 41 18 = c_1143 41 18 := (hid kn_1175)
                have kn_1177 : Hid (c_1159 41 19 = c_1143 41 19) := hF_1161 41 19 (fun q => q.elim (fun h => absurd h.2 (ni rfl)) (fun q => q.elim (fun h => absurd h.2 (ni rfl)) (fun h => absurd h.2 (ni rfl))))
                have h_1178 : c_1159 41 19 = c_1143 41 19 := (hid kn_1177)
                exact K c_1159  hI_1160 (fun a j hm => (hF_1161 a j (fun q => q.elim (fun h => hm (Or.inl h)) (fun q => q.elim (fun h => hm (Or.inr (Or.inl h))) (fun h => hm (Or.inr (Or.inr (Or.inl h))))))).trans ((hF_1145 a j (fun q => q.elim (fun h => hm (Or.inl h)) (fun q => q.elim (fun h => hm (Or.inr (Or.inl h))) (fun q => q.elim (fun h => hm (Or.inr (Or.inr (Or.inl h)))) (fun q => q.elim (fun h => hm (Or.inr (Or.inr (Or.inr (Or.inl h))))) (fun q => q.elim (fun h => hm (Or.inr (Or.inr (Or.inr (Or.inr (Or.inl h)))))) (fun q => q.elim (fun h => hm (Or.inr (Or.inr (Or.inr (Or.inr (Or.inr (Or.inl h))))))) (fun q => q.elim (fun h => hm (Or.inr (Or.inr (Or.inr (Or.inr (Or.inr (Or.inr (Or.inl h)))))))) (fun q => q.elim (fun h => hm (Or.inr (Or.inr (Or.inr (Or.inr (Or.inr (Or.inr (Or.inr (Or.inl h))))))))) (fun q => q.elim (fun h => hm (Or.inr (Or.inr (Or.inr (Or.inr (Or.inr (Or.inr (Or.inr (Or.inr (Or.inl h)))))))))) (fun h => hm (Or.inr (Or.inr (Or.inr (Or.inr (Or.inr (Or.inr (Or.inr (Or.inr (Or.inr h)))))))))))))))))))).trans ((hF_1114 a j (fun h => hm (Or.inl h))).trans ((hF_1105 a j (fun h => hm (Or.inl h))).trans ((hF_1098 a j (fun h => hm (Or.inl h))).trans (hFc a j (fun q => q.elim (fun h => hm (Or.inl h)) (fun q => q.elim (fun h => hm (Or.inr (Or.inl h))) (fun q => q.elim (fun h => hm (Or.inr (Or.inr (Or.inl h)))) (fun q => q.elim (fun h => hm (Or.inr (Or.inr (Or.inr (Or.inl h))))) (fun q => q.elim (fun h => hm (Or.inr (Or.inr (Or.inr (Or.inr (Or.inl h)))))) (fun q => q.elim (fun h => hm (Or.inr (Or.inr (Or.inr (Or.inr (Or.inr (Or.inl h))))))) (fun q => q.elim (fun h => hm (Or.inr (Or.inr (Or.inr (Or.inr (Or.inr (Or.inr (Or.inl h)))))))) (fun q => q.elim (fun h => hm (Or.inr (Or.inr (Or.inr (Or.inr (Or.inr (Or.inr (Or.inr (Or.inl h))))))))) (fun q => q.elim (fun h => hm (Or.inr (Or.inr (Or.inr (Or.inr (Or.inr (Or.inr (Or.inr (Or.inr (Or.inl h)))))))))) (fun h => hm (Or.inr (Or.inr (Or.inr (Or.inr (Or.inr (Or.inr (Or.inr (Or.inr (Or.inr h))))))))))))))))))))))))) (by unfold Rt; omega) (by omega)
            · refine v_ic_ne_f (t := 69) rfl (by decide) (by omega) ?_
              refine q_iconst rfl ?_
              refine q_goto (t := 70) rfl (by decide) ?_
              refine v_zret rfl rfl (by decide) ?_
              refine bk_inl ?_
              refine v_if_eq_f (t := 59) rfl (by decide) (by decide) ?_
              refine q_aload_n rfl rfl ?_
              refine q_iconst rfl ?_
              refine q_iload_n rfl rfl ?_
              refine v_cv rfl rfl rfl rfl (by decide) ⟨⟨rfl, rfl⟩, by decide, rfl⟩ (Nat.le_of_ble_eq_true rfl) (Nat.le_of_ble_eq_true rfl) ?_
              refine q_aload_n rfl rfl ?_
              refine v_gi (z := 4) (v := 0) rfl rfl rfl (by decide) rfl rfl (hz_109) ?_
              refine v_if_ne_f (t := 17) rfl (by decide) (by decide) ?_
              refine q_aload_n rfl rfl ?_
              refine q_iload_n rfl rfl ?_
              refine v_pi (z := 4) rfl rfl rfl (by decide) rfl rfl rfl (by decide) ?_
              refine q_aload_n rfl rfl ?_
              refine q_iload_n rfl rfl ?_
              refine v_pi (z := 5) rfl rfl rfl (by decide) rfl rfl rfl (by decide) ?_
              refine q_vret rfl rfl ?_
              refine bk_inl ?_
              refine q_aload_n rfl rfl ?_
              refine v_cv rfl rfl rfl rfl (by decide) ⟨⟨rfl, rfl⟩, by decide, rfl⟩ (Nat.le_of_ble_eq_true rfl) (Nat.le_of_ble_eq_true rfl) ?_
              refine q_aload_n rfl rfl ?_
              refine v_gi (z := 4) (v := 3) rfl rfl rfl (by decide) rfl rfl ((up_n (by decide)).trans (up_e rfl)) ?_
              refine v_if_ne_t (t := 11) rfl (by decide) (by decide) ?_
              refine q_iconst rfl ?_
              refine v_zret rfl rfl (by decide) ?_
              refine bk_inl ?_
              refine v_if_eq_t (t := 73) rfl (by decide) (by decide) ?_
              refine q_aload_n rfl rfl ?_
              refine q_ldc_s rfl rfl rfl (by decide) ?_
              refine v_cv rfl rfl rfl rfl (by decide) ⟨⟨rfl, rfl⟩, by decide, rfl⟩ (Nat.le_of_ble_eq_true rfl) (Nat.le_of_ble_eq_true rfl) ?_
              refine q_aload_n rfl rfl ?_
              refine v_cv rfl rfl rfl rfl (by decide) ⟨⟨rfl, rfl⟩, by decide, rfl⟩ (Nat.le_of_ble_eq_true rfl) (Nat.le_of_ble_eq_true rfl) ?_
              refine q_aload_n rfl rfl ?_
              refine v_gi (z := 4) (v := 3) rfl rfl rfl (by decide) rfl rfl ((up_n (by decide)).trans (up_e rfl)) ?_
              refine v_if_ne_t (t := 11) rfl (by decide) (by decide) ?_
              refine q_iconst rfl ?_
              refine v_zret rfl rfl (by decide) ?_
              refine bk_inl ?_
              refine v_if_eq_t (t := 25) rfl (by decide) (by decide) ?_
              refine q_vret rfl rfl ?_
              refine bk_inl ?_
              refine v_iinc (v := v + 1) rfl rfl (by decide) (by omega) ?_
              refine q_goto (t := 6) rfl (by decide) ?_
              refine q_iload_n rfl rfl ?_
              refine v_bip rfl (by decide) ?_
              refine v_ic_gt_f (t := 85) rfl (by decide) (by omega) ?_
              refine q_aload_n rfl rfl ?_
              refine v_cv rfl rfl rfl rfl (by decide) ⟨⟨rfl, rfl⟩, by decide, rfl⟩ (Nat.le_of_ble_eq_true rfl) (Nat.le_of_ble_eq_true rfl) ?_
              refine q_aload_n rfl rfl ?_
              refine v_cv rfl rfl rfl rfl (by decide) ⟨⟨rfl, rfl⟩, by decide, rfl⟩ (Nat.le_of_ble_eq_true rfl) (Nat.le_of_ble_eq_true rfl) ?_
              refine q_aload_n rfl rfl ?_
              refine v_gi (z := 4) (v := 3) rfl rfl rfl (by decide) rfl rfl ((up_n (by decide)).trans (up_e rfl)) ?_
              refine v_if_ne_t (t := 11) rfl (by decide) (by decide) ?_
              refine q_iconst rfl ?_
              refine v_zret rfl rfl (by decide) ?_
              refine bk_inl ?_
              refine v_if_eq_t (t := 22) rfl (by decide) (by decide) ?_
              refine q_iconst rfl ?_
              refine v_zret rfl rfl (by decide) ?_
              refine bk_inl ?_
              refine v_if_eq_t (t := 85) rfl (by decide) (by decide) ?_
              refine q_vret rfl rfl ?_
              have hI_1179 := iw_1_4 (v := 3) hI_104 ⟨by decide, by decide⟩
              have hI_1180 := iw_1_5 (v := (nx F e1 a)) hI_1179 ⟨by omega, by omega⟩
              intro hE_1181
              have hW : Wd P Q P P (up (up c_103 1 4 3) 1 5 (nx F e1 a)) = Wd P Q P P m9 := (Prod.mk.inj (Prod.mk.inj hE_1181).2).1
              have h_1182 := ir_1_4 hJ9
              have h_1183 : m9 1 4 = 3 := wd_fv (z := 4) 4 rfl hW rfl rfl rfl rfl (by decide) ((up_n (by decide)).trans (up_e rfl)) ⟨by omega, by omega⟩ ⟨by omega, by omega⟩
              have h_1184 := ir_1_2 hJ9
              have h_1185 : m9 1 2 = (ln F e1 (nx F e1 a)) := wd_fv (z := 2) 2 rfl hW rfl rfl rfl rfl (by decide) ((up_n (by decide)).trans ((up_n (by decide)).trans (hz_108))) ⟨by omega, by omega⟩ ⟨by omega, by omega⟩
              have h_1186 := ir_1_5 hJ9
              have h_1187 : m9 1 5 = (nx F e1 a) := wd_fv (z := 5) 5 rfl hW rfl rfl rfl rfl (by decide) (up_e rfl) ⟨by omega, by omega⟩ ⟨by omega, by omega⟩
              have kn_1188 : Hid (c_27 A 0 = jr) := (hF_29 A 0 (fun h => absurd h.1 (np0 hA rfl))).trans (hg_jr)
              have kn_1189 : Hid (c_78 A 0 = jr) := (hF_80 A 0 (fun h => absurd h.1 (np0 hA rfl))).trans (hid kn_1188)
              have kn_1190 : Hid (c_103 A 0 = jr) := (hF_105 A 0 (fun q => q.elim (fun h => absurd h.1 (np0 hA rfl)) (fun q => q.elim (fun h => absurd h.1 (np0 hA rfl)) (fun h => absurd h.1 (np0 hA rfl))))).trans (hid kn_1189)
              have h_1191 := ir_p0_0 hJ9 hA
              have h_1192 : m9 A 0 = jr := wd_fv (z := 0) 0 rfl hW (ck_p0 hA) (ck_p0 hA) rfl rfl (by omega) ((up_c (np0 hA rfl)).trans ((up_c (np0 hA rfl)).trans (hid kn_1190))) ⟨by omega, by omega⟩ ⟨by omega, by omega⟩
              have kn_1193 : Hid (c_27 A 1 = st) := (hF_29 A 1 (fun h => absurd h.1 (np0 hA rfl))).trans (hg_st)
              have kn_1194 : Hid (c_78 A 1 = st) := (hF_80 A 1 (fun h => absurd h.1 (np0 hA rfl))).trans (hid kn_1193)
              have kn_1195 : Hid (c_103 A 1 = st) := (hF_105 A 1 (fun q => q.elim (fun h => absurd h.1 (np0 hA rfl)) (fun q => q.elim (fun h => absurd h.1 (np0 hA rfl)) (fun h => absurd h.1 (np0 hA rfl))))).trans (hid kn_1194)
              have h_1196 := ir_p0_1 hJ9 hA
              have h_1197 : m9 A 1 = st := wd_fv (z := 1) 1 rfl hW (ck_p0 hA) (ck_p0 hA) rfl rfl (by omega) ((up_c (np0 hA rfl)).trans ((up_c (np0 hA rfl)).trans (hid kn_1195))) ⟨by omega, by omega⟩ ⟨by omega, by omega⟩
              have h_1198 := ir_p0_2 hJ9 hA
              have h_1199 : m9 A 2 = si := wd_fv (z := 2) 2 rfl hW (ck_p0 hA) (ck_p0 hA) rfl rfl (by omega) ((up_c (np0 hA rfl)).trans ((up_c (np0 hA rfl)).trans (hid kn_950))) ⟨by omega, by omega⟩ ⟨by omega, by omega⟩
              have kn_1200 : Hid (c_27 A 3 = du) := (hF_29 A 3 (fun h => absurd h.1 (np0 hA rfl))).trans (hg_du)
              have kn_1201 : Hid (c_78 A 3 = du) := (hF_80 A 3 (fun h => absurd h.1 (np0 hA rfl))).trans (hid kn_1200)
              have kn_1202 : Hid (c_103 A 3 = du) := (hF_105 A 3 (fun q => q.elim (fun h => absurd h.1 (np0 hA rfl)) (fun q => q.elim (fun h => absurd h.1 (np0 hA rfl)) (fun h => absurd h.1 (np0 hA rfl))))).trans (hid kn_1201)
              have h_1203 := ir_p0_3 hJ9 hA
              have h_1204 : m9 A 3 = du := wd_fv (z := 3) 3 rfl hW (ck_p0 hA) (ck_p0 hA) rfl rfl (by omega) ((up_c (np0 hA rfl)).trans ((up_c (np0 hA rfl)).trans (hid kn_1202))) ⟨by omega, by omega⟩ ⟨by omega, by omega⟩
              refine q_aload_n rfl rfl ?_
              refine v_cv rfl rfl rfl rfl (by decide) ⟨⟨rfl, rfl⟩, by decide, rfl⟩ (Nat.le_of_ble_eq_true rfl) (Nat.le_of_ble_eq_true rfl) ?_
              refine q_aload_n rfl rfl ?_
              refine v_gi (z := 5) (v := (-1)) rfl rfl rfl (by decide) rfl rfl (hc_1) ?_
              refine q_iconst rfl ?_
              refine v_ic_ne_f (t := 12) rfl (by decide) (by decide) ?_
              refine q_iconst rfl ?_
              refine q_goto (t := 13) rfl (by decide) ?_
              refine v_zret rfl rfl (by decide) ?_
              refine bk_inl ?_
              refine v_if_eq_f (t := 136) rfl (by decide) (by decide) ?_
              refine q_aload_n rfl rfl ?_
              refine v_cv rfl rfl rfl rfl (by decide) ⟨⟨rfl, rfl⟩, by decide, rfl⟩ (Nat.le_of_ble_eq_true rfl) (Nat.le_of_ble_eq_true rfl) ?_
              refine q_aload_n rfl rfl ?_
              have kn_1205 : Hid (c2 41 3 = e1) := (hFc 41 3 (fun q => q.elim (fun h => absurd h.2 (ni rfl)) (fun q => q.elim (fun h => absurd h.2 (ni rfl)) (fun q => q.elim (fun h => absurd h.2 (ni rfl)) (fun q => q.elim (fun h => absurd h.2 (ni rfl)) (fun q => q.elim (fun h => absurd h.2 (ni rfl)) (fun q => q.elim (fun h => absurd h.2 (ni rfl)) (fun q => q.elim (fun h => absurd h.2 (ni rfl)) (fun q => q.elim (fun h => absurd h (nn rfl)) (fun q => q.elim (fun h => absurd h (nn rfl)) (fun h => absurd h (nn rfl)))))))))))).trans (hr_e1)
              have h_1206 : -2147483648 ≤ (H (nx F e1 a)) ∧ (H (nx F e1 a)) ≤ 2147483647 := by rw [← hH (nx F e1 a)]; exact ir_43 hI (nx F e1 a)
              have h_1207 := hU (nx F e1 a) (by omega) (by omega)
              have h_1208 := hb_or (b := H) (e := e1) (r := (nx F e1 a))
              have h_1209 := hb_bd (b := H) (e := e1) (r := (nx F e1 a)) (lo := -2147483648) (hi := 2147483647) ⟨by omega, by omega⟩ (by decide)
              refine v_cv rfl rfl rfl rfl (by decide) ⟨⟨rfl, rfl⟩, by decide, rfl⟩ (Nat.le_of_ble_eq_true rfl) (Nat.le_of_ble_eq_true rfl) (f_154 (e1 := e1) (a9 := a) (B := H) (r8 := (nx F e1 a)) (r := (hb H e1 (nx F e1 a))) hI2 ((hid kn_1205)) ((hr_a)) (fun j => (hFc 43 j (fun q => q.elim (fun h => absurd h.1 (nn rfl)) (fun q => q.elim (fun h => absurd h.1 (nn rfl)) (fun q => q.elim (fun h => absurd h.1 (nn rfl)) (fun q => q.elim (fun h => absurd h.1 (nn rfl)) (fun q => q.elim (fun h => absurd h.1 (nn rfl)) (fun q => q.elim (fun h => absurd h.1 (nn rfl)) (fun q => q.elim (fun h => absurd h.1 (nn rfl)) (fun q => q.elim (fun h => absurd h (nn rfl)) (fun q => q.elim (fun h => absurd h (nn rfl)) (fun h => absurd h (nn rfl)))))))))))).trans (hH j)) ((nx_tr hU (by omega) (by omega)).trans (rfl)) rfl (fun c_1210 hI_1211 hF_1212 h_1213 => ?_))
              refine bk_inl ?_
              refine q_pop rfl rfl ?_
              refine q_aload_n rfl rfl ?_
              refine v_gi (z := 4) (v := (nx F e1 a)) rfl rfl rfl (by decide) rfl rfl (h_1213) ?_
              refine q_aload_n rfl rfl ?_
              have kn_1214 : Hid (c_1210 41 3 = e1) := (hF_1212 41 3 (fun h => absurd h.2 (ni rfl))).trans (hid kn_1205)
              refine v_gi (z := 3) (v := e1) rfl rfl rfl (by decide) rfl rfl (hid kn_1214) ?_
              refine v_ic_ge_f (t := 20) rfl (by decide) (by omega) ?_
              refine q_iconst rfl ?_
              refine q_goto (t := 21) rfl (by decide) ?_
              refine v_zret rfl rfl (by decide) ?_
              refine bk_inl ?_
              refine v_if_eq_f (t := 136) rfl (by decide) (by decide) ?_
              refine q_aload_n rfl rfl ?_
              have h_1215 := wv_bd (b := F) (r := (nx F e1 a)) (l := (ln F e1 (nx F e1 a))) (fun j h1 h2 => ⟨(ln_in (e := e1) (a := (nx F e1 a)) h1 (by omega)).1, (ln_in (e := e1) (a := (nx F e1 a)) h1 (by omega)).2.1⟩)
              have h_1216 := wr8_2 (b := F) (r := (nx F e1 a)) (l := (ln F e1 (nx F e1 a))) (by omega) (fun j h1 h2 => ⟨(ln_in (e := e1) (a := (nx F e1 a)) h1 (by omega)).1, (ln_in (e := e1) (a := (nx F e1 a)) h1 (by omega)).2.1⟩) (by omega)
              refine v_cv rfl rfl rfl rfl (by decide) ⟨⟨rfl, rfl⟩, by decide, rfl⟩ (Nat.le_of_ble_eq_true rfl) (Nat.le_of_ble_eq_true rfl) (f_157 (e1 := e1) (a9 := (nx F e1 a)) (B := H) (r8 := (nx F e1 a)) (L8 := (ln F e1 (nx F e1 a))) (W8 := (wv F (nx F e1 a) (ln F e1 (nx F e1 a)))) hI_1211 ((hid kn_1214)) ((h_1213)) (fun j => ((hF_1212 43 j (fun h => absurd h.1 (nn rfl))).trans (hFc 43 j (fun q => q.elim (fun h => absurd h.1 (nn rfl)) (fun q => q.elim (fun h => absurd h.1 (nn rfl)) (fun q => q.elim (fun h => absurd h.1 (nn rfl)) (fun q => q.elim (fun h => absurd h.1 (nn rfl)) (fun q => q.elim (fun h => absurd h.1 (nn rfl)) (fun q => q.elim (fun h => absurd h.1 (nn rfl)) (fun q => q.elim (fun h => absurd h.1 (nn rfl)) (fun q => q.elim (fun h => absurd h (nn rfl)) (fun q => q.elim (fun h => absurd h (nn rfl)) (fun h => absurd h (nn rfl))))))))))))).trans (hH j)) ((nx_tr hU (by omega) (by omega)).trans ((nx_z (by omega)))) ((ln_tr hU (by omega) (by omega)).trans (rfl)) ((wv_tr hU (by omega) (by omega) (fun j h1 h2 => ⟨(ln_in (e := e1) (a := (nx F e1 a)) h1 (by omega)).1, (ln_in (e := e1) (a := (nx F e1 a)) h1 (by omega)).2.1⟩)).trans (rfl)) (fun c_1217 hI_1218 hF_1219 hz_1220 => ?_))
              refine bk_inl ?_
              refine q_istore_n rfl (by decide) ?_
              refine q_iload_n rfl rfl ?_
              refine q_call rfl rfl rfl rfl ?_
              refine q_iload_n rfl rfl ?_
              refine q_ldc_s rfl rfl rfl (by decide) ?_
              refine q_call rfl rfl rfl rfl (s_158_16 ?_)
              refine bk_inl ?_
              refine v_ic_eq_f (t := 36) rfl (by decide) (by omega) ?_
              refine q_iload_n rfl rfl ?_
              refine q_ldc_s rfl rfl rfl (by decide) ?_
              refine q_call rfl rfl rfl rfl (s_158_17 ?_)
              refine bk_inl ?_
              refine v_ic_eq_f (t := 36) rfl (by decide) (by omega) ?_
              refine q_iload_n rfl rfl ?_
              refine q_ldc_s rfl rfl rfl (by decide) ?_
              refine q_call rfl rfl rfl rfl (s_158_18 ?_)
              refine bk_inl ?_
              refine v_ic_eq_t (t := 36) rfl (by decide) (by omega) ?_
              refine q_iconst rfl ?_
              refine q_goto (t := 41) rfl (by decide) ?_
              refine v_zret rfl rfl (by decide) ?_
              refine bk_inl ?_
              refine v_if_ne_t (t := 82) rfl (by decide) (by decide) ?_
              refine q_iload_n rfl rfl ?_
              refine v_bip rfl (by decide) ?_
              refine v_ic_eq_f (t := 96) rfl (by decide) (by omega) ?_
              refine q_aload_n rfl rfl ?_
              refine q_iload_n rfl rfl ?_
              refine v_cv rfl rfl rfl rfl (by decide) ⟨⟨rfl, rfl⟩, by decide, rfl⟩ (Nat.le_of_ble_eq_true rfl) (Nat.le_of_ble_eq_true rfl) ?_
              refine q_iload_n rfl rfl ?_
              refine q_ldc_s rfl rfl rfl (by decide) ?_
              refine q_call rfl rfl rfl rfl (s_158_16 ?_)
              refine bk_inl ?_
              refine v_ic_ne_t (t := 26) rfl (by decide) (by omega) ?_
              refine q_iload_n rfl rfl ?_
              refine q_ldc_s rfl rfl rfl (by decide) ?_
              refine q_call rfl rfl rfl rfl (s_158_17 ?_)
              refine bk_inl ?_
              refine v_ic_ne_t (t := 51) rfl (by decide) (by omega) ?_
              refine q_iload_n rfl rfl ?_
              refine q_ldc_s rfl rfl rfl (by decide) ?_
              refine q_call rfl rfl rfl rfl (s_158_18 ?_)
              refine bk_inl ?_
              refine v_ic_ne_f (t := 72) rfl (by decide) (by omega) ?_
              refine q_aload_n rfl rfl ?_
              have kn_1221 : Hid (c_1210 41 18 = si) := (hF_1212 41 18 (fun h => absurd h.2 (ni rfl))).trans (hr_si)
              have kn_1222 : Hid (c_1217 41 18 = si) := (hF_1219 41 18 (fun h => absurd h.2 (ni rfl))).trans (hid kn_1221)
              refine v_gi (z := 18) (v := si) rfl rfl rfl (by decide) rfl rfl (hid kn_1222) ?_
              refine q_iconst rfl ?_
              refine v_ic_ne_f (t := 72) rfl (by decide) (by omega) ?_
              refine q_iconst rfl ?_
              refine q_goto (t := 73) rfl (by decide) ?_
              refine v_zret rfl rfl (by decide) ?_
              refine bk_inl ?_
              refine v_if_eq_f (t := 105) rfl (by decide) (by decide) ?_
              refine q_aload_n rfl rfl ?_
              refine q_iconst rfl ?_
              refine q_aload_n rfl rfl ?_
              refine v_gi (z := 4) (v := (nx F e1 a)) rfl rfl rfl (by decide) rfl rfl (hz_1220) ?_
              refine v_cv rfl rfl rfl rfl (by decide) ⟨⟨rfl, rfl⟩, by decide, rfl⟩ (Nat.le_of_ble_eq_true rfl) (Nat.le_of_ble_eq_true rfl) ?_
              refine q_aload_n rfl rfl ?_
              have kn_1223 : Hid (c_1210 41 5 = (-1)) := (hF_1212 41 5 (fun h => absurd h.2 (ni rfl))).trans (hc_1)
              have kn_1224 : Hid (c_1217 41 5 = (-1)) := (hF_1219 41 5 (fun h => absurd h.2 (ni rfl))).trans (hid kn_1223)
              refine v_gi (z := 5) (v := (-1)) rfl rfl rfl (by decide) rfl rfl (hid kn_1224) ?_
              refine q_iconst rfl ?_
              refine v_ic_eq_t (t := 9) rfl (by decide) (by decide) ?_
              refine q_aload_n rfl rfl ?_
              refine q_iload_n rfl rfl ?_
              refine v_pi (z := 5) rfl rfl rfl (by decide) rfl rfl rfl (by decide) ?_
              refine q_aload_n rfl rfl ?_
              refine q_iload_n rfl rfl ?_
              refine v_pi (z := 6) rfl rfl rfl (by decide) rfl rfl rfl (by decide) ?_
              refine q_vret rfl rfl ?_
              refine bk_inl ?_
              refine q_aload_n rfl rfl ?_
              refine v_cv rfl rfl rfl rfl (by decide) ⟨⟨rfl, rfl⟩, by decide, rfl⟩ (Nat.le_of_ble_eq_true rfl) (Nat.le_of_ble_eq_true rfl) ?_
              refine q_aload_n rfl rfl ?_
              refine v_gi (z := 5) (v := (nx F e1 a)) rfl rfl rfl (by decide) rfl rfl ((up_n (by decide)).trans (up_e rfl)) ?_
              refine q_iconst rfl ?_
              refine v_ic_ne_t (t := 12) rfl (by decide) (by omega) ?_
              refine q_iconst rfl ?_
              refine v_zret rfl rfl (by decide) ?_
              refine bk_inl ?_
              refine v_if_ne_f (t := 115) rfl (by decide) (by decide) ?_
              refine q_goto (t := 136) rfl (by decide) ?_
              refine Wp_ls [(0, .ref 41), (1, vi a1)] (lsub_cons rfl (lsub_cons rfl lsub_nil)) ?_
              have hI_1225 := iw_41_5 (v := (nx F e1 a)) hI_1218 ⟨by omega, by omega⟩
              have hI_1226 := iw_41_6 (v := 3) hI_1225 ⟨by decide, by decide⟩
              have h_1227 : (up (up c_1217 41 5 (nx F e1 a)) 41 6 3) 41 5 = (nx F e1 a) := ((up_n (by decide)).trans (up_e rfl))
              have h_1228 : (up (up c_1217 41 5 (nx F e1 a)) 41 6 3) 41 4 = (nx F e1 a) := ((up_n (by decide)).trans ((up_n (by decide)).trans (hz_1220)))
              have h_1229 : (up (up c_1217 41 5 (nx F e1 a)) 41 6 3) 41 6 = 3 := (up_e rfl)
              have kn_1230 : Hid (c_1210 41 16 = jr) := (hF_1212 41 16 (fun h => absurd h.2 (ni rfl))).trans (hr_jr)
              have kn_1231 : Hid (c_1217 41 16 = jr) := (hF_1219 41 16 (fun h => absurd h.2 (ni rfl))).trans (hid kn_1230)
              have h_1232 : (up (up c_1217 41 5 (nx F e1 a)) 41 6 3) 41 16 = jr := ((up_n (by decide)).trans ((up_n (by decide)).trans (hid kn_1231)))
              have kn_1233 : Hid (c_1210 41 17 = st) := (hF_1212 41 17 (fun h => absurd h.2 (ni rfl))).trans (hr_st)
              have kn_1234 : Hid (c_1217 41 17 = st) := (hF_1219 41 17 (fun h => absurd h.2 (ni rfl))).trans (hid kn_1233)
              have h_1235 : (up (up c_1217 41 5 (nx F e1 a)) 41 6 3) 41 17 = st := ((up_n (by decide)).trans ((up_n (by decide)).trans (hid kn_1234)))
              have h_1236 : (up (up c_1217 41 5 (nx F e1 a)) 41 6 3) 41 18 = si := ((up_n (by decide)).trans ((up_n (by decide)).trans (hid kn_1222)))
              have kn_1237 : Hid (c_1210 41 19 = du) := (hF_1212 41 19 (fun h => absurd h.2 (ni rfl))).trans (hr_du)
              have kn_1238 : Hid (c_1217 41 19 = du) := (hF_1219 41 19 (fun h => absurd h.2 (ni rfl))).trans (hid kn_1237)
              have h_1239 : (up (up c_1217 41 5 (nx F e1 a)) 41 6 3) 41 19 = du := ((up_n (by decide)).trans ((up_n (by decide)).trans (hid kn_1238)))
              exact K (up (up c_1217 41 5 (nx F e1 a)) 41 6 3)  hI_1226 (fun a j hm => (up_b (Decidable.or_iff_not_imp_left.mpr (fun h1 h2 => hm (Or.inr (Or.inr (Or.inl ⟨Decidable.not_not.mp h1, h2⟩)))))).trans ((up_b (Decidable.or_iff_not_imp_left.mpr (fun h1 h2 => hm (Or.inr (Or.inl ⟨Decidable.not_not.mp h1, h2⟩))))).trans ((hF_1219 a j (fun h => hm (Or.inl h))).trans ((hF_1212 a j (fun h => hm (Or.inl h))).trans (hFc a j (fun q => q.elim (fun h => hm (Or.inl h)) (fun q => q.elim (fun h => hm (Or.inr (Or.inl h))) (fun q => q.elim (fun h => hm (Or.inr (Or.inr (Or.inl h)))) (fun q => q.elim (fun h => hm (Or.inr (Or.inr (Or.inr (Or.inl h))))) (fun q => q.elim (fun h => hm (Or.inr (Or.inr (Or.inr (Or.inr (Or.inl h)))))) (fun q => q.elim (fun h => hm (Or.inr (Or.inr (Or.inr (Or.inr (Or.inr (Or.inl h))))))) (fun q => q.elim (fun h => hm (Or.inr (Or.inr (Or.inr (Or.inr (Or.inr (Or.inr (Or.inl h)))))))) (fun q => q.elim (fun h => hm (Or.inr (Or.inr (Or.inr (Or.inr (Or.inr (Or.inr (Or.inr (Or.inl h))))))))) (fun q => q.elim (fun h => hm (Or.inr (Or.inr (Or.inr (Or.inr (Or.inr (Or.inr (Or.inr (Or.inr (Or.inl h)))))))))) (fun h => hm (Or.inr (Or.inr (Or.inr (Or.inr (Or.inr (Or.inr (Or.inr (Or.inr (Or.inr h)))))))))))))))))))))))) (by unfold Rt; omega) (by omega)
          refine v_tsw_o (t := 71) rfl (by omega) (by decide) ?_
          refine q_iconst rfl ?_
          refine v_zret rfl rfl (by decide) ?_
          refine bk_inl ?_
          refine v_if_eq_t (t := 59) rfl (by decide) (by decide) ?_
          refine q_aload_n rfl rfl ?_
          refine v_cv rfl rfl rfl rfl (by decide) ⟨⟨rfl, rfl⟩, by decide, rfl⟩ (Nat.le_of_ble_eq_true rfl) (Nat.le_of_ble_eq_true rfl) ?_
          refine q_aload_n rfl rfl ?_
          refine v_gi (z := 4) (v := 0) rfl rfl rfl (by decide) rfl rfl (hz_109) ?_
          refine v_if_ne_f (t := 11) rfl (by decide) (by decide) ?_
          refine q_iconst rfl ?_
          refine q_goto (t := 12) rfl (by decide) ?_
          refine v_zret rfl rfl (by decide) ?_
          refine bk_inl ?_
          refine v_if_eq_f (t := 73) rfl (by decide) (by decide) ?_
          refine q_aload_n rfl rfl ?_
          refine q_aload_n rfl rfl ?_
          refine q_iload rfl rfl ?_
          have hw_1240 : (wd8_0 F (nx F e1 a) (ln F e1 (nx F e1 a))) = 3 := by omega
          rw [hw_1240]
          have kn_1241 : Hid (c_27 A 0 = jr) := (hF_29 A 0 (fun h => absurd h.1 (np0 hA rfl))).trans (hg_jr)
          have kn_1242 : Hid (c_78 A 0 = jr) := (hF_80 A 0 (fun h => absurd h.1 (np0 hA rfl))).trans (hid kn_1241)
          have kn_1243 : Hid (c_103 A 0 = jr) := (hF_105 A 0 (fun q => q.elim (fun h => absurd h.1 (np0 hA rfl)) (fun q => q.elim (fun h => absurd h.1 (np0 hA rfl)) (fun h => absurd h.1 (np0 hA rfl))))).trans (hid kn_1242)
          have h_1244 : c_103 A 0 = jr := (hid kn_1243)
          have kn_1245 : Hid (c_27 A 1 = st) := (hF_29 A 1 (fun h => absurd h.1 (np0 hA rfl))).trans (hg_st)
          have kn_1246 : Hid (c_78 A 1 = st) := (hF_80 A 1 (fun h => absurd h.1 (np0 hA rfl))).trans (hid kn_1245)
          have kn_1247 : Hid (c_103 A 1 = st) := (hF_105 A 1 (fun q => q.elim (fun h => absurd h.1 (np0 hA rfl)) (fun q => q.elim (fun h => absurd h.1 (np0 hA rfl)) (fun h => absurd h.1 (np0 hA rfl))))).trans (hid kn_1246)
          have h_1248 : c_103 A 1 = st := (hid kn_1247)
          have kn_1249 : Hid (c_27 A 2 = si) := (hF_29 A 2 (fun h => absurd h.1 (np0 hA rfl))).trans (hg_si)
          have kn_1250 : Hid (c_78 A 2 = si) := (hF_80 A 2 (fun h => absurd h.1 (np0 hA rfl))).trans (hid kn_1249)
          have kn_1251 : Hid (c_103 A 2 = si) := (hF_105 A 2 (fun q => q.elim (fun h => absurd h.1 (np0 hA rfl)) (fun q => q.elim (fun h => absurd h.1 (np0 hA rfl)) (fun h => absurd h.1 (np0 hA rfl))))).trans (hid kn_1250)
          have h_1252 : c_103 A 2 = si := (hid kn_1251)
          refine v_cv rfl rfl rfl (ck_p0 hA) (by omega) ⟨⟨rfl, rfl⟩, by decide, rfl⟩ (Nat.le_of_ble_eq_true rfl) (Nat.le_of_ble_eq_true rfl) (fn_of (s_33 (a2 := 3) hI_104 hA (show 0 ≤ 3 ∧ 3 ≤ 100 from by omega) (by omega) (by omega) (by omega) (fun c_1253 hI_1254 hF_1255 => ?_)))
          intro hG_1256
          refine bk_inl ?_
          refine q_aload_n rfl rfl ?_
          refine q_ldc_s rfl rfl rfl (by decide) ?_
          have h_1257 := ir_1_4 hI_1254
          refine v_cv rfl rfl rfl rfl (by decide) ⟨⟨rfl, rfl⟩, by decide, rfl⟩ (Nat.le_of_ble_eq_true rfl) (Nat.le_of_ble_eq_true rfl) (fn_of (s_11 hI_1254 (q := 9) (nt := 1) (by decide) (by decide) (by decide) (fun c_1258 hI_1259 hF_1260 => ?_)))
          intro hG_1261
          refine bk_inl ?_
          refine v_iinc (v := v + 1) rfl rfl (by decide) (by omega) ?_
          refine q_goto (t := 6) rfl (by decide) ?_
          have h_1262 := ir_1_4 hI_1259
          by_cases h_1263 : c_1258 1 4 = 0
          · skip
            refine Wp_ls [(0, .ref A), (1, .ref 1), (2, vi (v + 1))] (lsub_cons rfl (lsub_cons rfl (lsub_cons rfl lsub_nil))) ?_
            refine gh_stop (s_34_l (sc := sc) (d := dh + 18) (c := c_1258) (Z := fun _ => True) hI_1259 hA (fun _ _ _ => trivial) 124 c_1258 (v + 1) hI_1259 (fun a j hm => rfl) ⟨by omega, by omega⟩ (by omega)) (fun hG_1264 => ?_)
            refine q_aload_n rfl rfl ?_
            refine v_cv rfl rfl rfl rfl (by decide) ⟨⟨rfl, rfl⟩, by decide, rfl⟩ (Nat.le_of_ble_eq_true rfl) (Nat.le_of_ble_eq_true rfl) ?_
            refine q_aload_n rfl rfl ?_
            refine v_gi (z := 5) (v := (-1)) rfl rfl rfl (by decide) rfl rfl (hc_1) ?_
            refine q_iconst rfl ?_
            refine v_ic_ne_f (t := 12) rfl (by decide) (by decide) ?_
            refine q_iconst rfl ?_
            refine q_goto (t := 13) rfl (by decide) ?_
            refine v_zret rfl rfl (by decide) ?_
            refine bk_inl ?_
            refine v_if_eq_f (t := 136) rfl (by decide) (by decide) ?_
            refine q_aload_n rfl rfl ?_
            refine v_cv rfl rfl rfl rfl (by decide) ⟨⟨rfl, rfl⟩, by decide, rfl⟩ (Nat.le_of_ble_eq_true rfl) (Nat.le_of_ble_eq_true rfl) ?_
            refine q_aload_n rfl rfl ?_
            have kn_1265 : Hid (c2 41 3 = e1) := (hFc 41 3 (fun q => q.elim (fun h => absurd h.2 (ni rfl)) (fun q => q.elim (fun h => absurd h.2 (ni rfl)) (fun q => q.elim (fun h => absurd h.2 (ni rfl)) (fun q => q.elim (fun h => absurd h.2 (ni rfl)) (fun q => q.elim (fun h => absurd h.2 (ni rfl)) (fun q => q.elim (fun h => absurd h.2 (ni rfl)) (fun q => q.elim (fun h => absurd h.2 (ni rfl)) (fun q => q.elim (fun h => absurd h (nn rfl)) (fun q => q.elim (fun h => absurd h (nn rfl)) (fun h => absurd h (nn rfl)))))))))))).trans (hr_e1)
            have h_1266 : -2147483648 ≤ (H (nx F e1 a)) ∧ (H (nx F e1 a)) ≤ 2147483647 := by rw [← hH (nx F e1 a)]; exact ir_43 hI (nx F e1 a)
            have h_1267 := hU (nx F e1 a) (by omega) (by omega)
            have h_1268 := hb_or (b := H) (e := e1) (r := (nx F e1 a))
            have h_1269 := hb_bd (b := H) (e := e1) (r := (nx F e1 a)) (lo := -2147483648) (hi := 2147483647) ⟨by omega, by omega⟩ (by decide)
            refine v_cv rfl rfl rfl rfl (by decide) ⟨⟨rfl, rfl⟩, by decide, rfl⟩ (Nat.le_of_ble_eq_true rfl) (Nat.le_of_ble_eq_true rfl) (f_154 (e1 := e1) (a9 := a) (B := H) (r8 := (nx F e1 a)) (r := (hb H e1 (nx F e1 a))) hI2 ((hid kn_1265)) ((hr_a)) (fun j => (hFc 43 j (fun q => q.elim (fun h => absurd h.1 (nn rfl)) (fun q => q.elim (fun h => absurd h.1 (nn rfl)) (fun q => q.elim (fun h => absurd h.1 (nn rfl)) (fun q => q.elim (fun h => absurd h.1 (nn rfl)) (fun q => q.elim (fun h => absurd h.1 (nn rfl)) (fun q => q.elim (fun h => absurd h.1 (nn rfl)) (fun q => q.elim (fun h => absurd h.1 (nn rfl)) (fun q => q.elim (fun h => absurd h (nn rfl)) (fun q => q.elim (fun h => absurd h (nn rfl)) (fun h => absurd h (nn rfl)))))))))))).trans (hH j)) ((nx_tr hU (by omega) (by omega)).trans (rfl)) rfl (fun c_1270 hI_1271 hF_1272 h_1273 => ?_))
            refine bk_inl ?_
            refine q_pop rfl rfl ?_
            refine q_aload_n rfl rfl ?_
            refine v_gi (z := 4) (v := (nx F e1 a)) rfl rfl rfl (by decide) rfl rfl (h_1273) ?_
            refine q_aload_n rfl rfl ?_
            have kn_1274 : Hid (c_1270 41 3 = e1) := (hF_1272 41 3 (fun h => absurd h.2 (ni rfl))).trans (hid kn_1265)
            refine v_gi (z := 3) (v := e1) rfl rfl rfl (by decide) rfl rfl (hid kn_1274) ?_
            refine v_ic_ge_f (t := 20) rfl (by decide) (by omega) ?_
            refine q_iconst rfl ?_
            refine q_goto (t := 21) rfl (by decide) ?_
            refine v_zret rfl rfl (by decide) ?_
            refine bk_inl ?_
            refine v_if_eq_f (t := 136) rfl (by decide) (by decide) ?_
            refine q_aload_n rfl rfl ?_
            have h_1275 := wv_bd (b := F) (r := (nx F e1 a)) (l := (ln F e1 (nx F e1 a))) (fun j h1 h2 => ⟨(ln_in (e := e1) (a := (nx F e1 a)) h1 (by omega)).1, (ln_in (e := e1) (a := (nx F e1 a)) h1 (by omega)).2.1⟩)
            have h_1276 := wr8_3 (b := F) (r := (nx F e1 a)) (l := (ln F e1 (nx F e1 a))) (by omega) (fun j h1 h2 => ⟨(ln_in (e := e1) (a := (nx F e1 a)) h1 (by omega)).1, (ln_in (e := e1) (a := (nx F e1 a)) h1 (by omega)).2.1⟩) (by omega)
            refine v_cv rfl rfl rfl rfl (by decide) ⟨⟨rfl, rfl⟩, by decide, rfl⟩ (Nat.le_of_ble_eq_true rfl) (Nat.le_of_ble_eq_true rfl) (f_157 (e1 := e1) (a9 := (nx F e1 a)) (B := H) (r8 := (nx F e1 a)) (L8 := (ln F e1 (nx F e1 a))) (W8 := (wv F (nx F e1 a) (ln F e1 (nx F e1 a)))) hI_1271 ((hid kn_1274)) ((h_1273)) (fun j => ((hF_1272 43 j (fun h => absurd h.1 (nn rfl))).trans (hFc 43 j (fun q => q.elim (fun h => absurd h.1 (nn rfl)) (fun q => q.elim (fun h => absurd h.1 (nn rfl)) (fun q => q.elim (fun h => absurd h.1 (nn rfl)) (fun q => q.elim (fun h => absurd h.1 (nn rfl)) (fun q => q.elim (fun h => absurd h.1 (nn rfl)) (fun q => q.elim (fun h => absurd h.1 (nn rfl)) (fun q => q.elim (fun h => absurd h.1 (nn rfl)) (fun q => q.elim (fun h => absurd h (nn rfl)) (fun q => q.elim (fun h => absurd h (nn rfl)) (fun h => absurd h (nn rfl))))))))))))).trans (hH j)) ((nx_tr hU (by omega) (by omega)).trans ((nx_z (by omega)))) ((ln_tr hU (by omega) (by omega)).trans (rfl)) ((wv_tr hU (by omega) (by omega) (fun j h1 h2 => ⟨(ln_in (e := e1) (a := (nx F e1 a)) h1 (by omega)).1, (ln_in (e := e1) (a := (nx F e1 a)) h1 (by omega)).2.1⟩)).trans (rfl)) (fun c_1277 hI_1278 hF_1279 hz_1280 => ?_))
            refine bk_inl ?_
            refine q_istore_n rfl (by decide) ?_
            refine q_iload_n rfl rfl ?_
            refine q_call rfl rfl rfl rfl ?_
            refine q_iload_n rfl rfl ?_
            refine q_ldc_s rfl rfl rfl (by decide) ?_
            refine q_call rfl rfl rfl rfl (s_158_16 ?_)
            refine bk_inl ?_
            refine v_ic_eq_f (t := 36) rfl (by decide) (by omega) ?_
            refine q_iload_n rfl rfl ?_
            refine q_ldc_s rfl rfl rfl (by decide) ?_
            refine q_call rfl rfl rfl rfl (s_158_17 ?_)
            refine bk_inl ?_
            refine v_ic_eq_f (t := 36) rfl (by decide) (by omega) ?_
            refine q_iload_n rfl rfl ?_
            refine q_ldc_s rfl rfl rfl (by decide) ?_
            refine q_call rfl rfl rfl rfl (s_158_18 ?_)
            refine bk_inl ?_
            refine v_ic_eq_f (t := 36) rfl (by decide) (by omega) ?_
            refine q_iload_n rfl rfl ?_
            refine q_ldc_s rfl rfl rfl (by decide) ?_
            refine q_call rfl rfl rfl rfl (s_158_19 ?_)
            refine bk_inl ?_
            refine v_ic_ne_f (t := 40) rfl (by decide) (by omega) ?_
            refine q_iconst rfl ?_
            refine q_goto (t := 41) rfl (by decide) ?_
            refine v_zret rfl rfl (by decide) ?_
            refine bk_inl ?_
            refine v_if_ne_t (t := 82) rfl (by decide) (by decide) ?_
            refine q_iload_n rfl rfl ?_
            refine v_bip rfl (by decide) ?_
            refine v_ic_eq_f (t := 96) rfl (by decide) (by omega) ?_
            refine q_aload_n rfl rfl ?_
            refine q_iload_n rfl rfl ?_
            refine v_cv rfl rfl rfl rfl (by decide) ⟨⟨rfl, rfl⟩, by decide, rfl⟩ (Nat.le_of_ble_eq_true rfl) (Nat.le_of_ble_eq_true rfl) ?_
            refine q_iload_n rfl rfl ?_
            refine q_ldc_s rfl rfl rfl (by decide) ?_
            refine q_call rfl rfl rfl rfl (s_158_16 ?_)
            refine bk_inl ?_
            refine v_ic_ne_t (t := 26) rfl (by decide) (by omega) ?_
            refine q_iload_n rfl rfl ?_
            refine q_ldc_s rfl rfl rfl (by decide) ?_
            refine q_call rfl rfl rfl rfl (s_158_17 ?_)
            refine bk_inl ?_
            refine v_ic_ne_t (t := 51) rfl (by decide) (by omega) ?_
            refine q_iload_n rfl rfl ?_
            refine q_ldc_s rfl rfl rfl (by decide) ?_
            refine q_call rfl rfl rfl rfl (s_158_18 ?_)
            refine bk_inl ?_
            refine v_ic_ne_t (t := 72) rfl (by decide) (by omega) ?_
            refine q_iconst rfl ?_
            refine v_zret rfl rfl (by decide) ?_
            refine bk_inl ?_
            refine v_if_eq_t (t := 105) rfl (by decide) (by decide) ?_
            refine q_aload_n rfl rfl ?_
            refine v_cv rfl rfl rfl rfl (by decide) ⟨⟨rfl, rfl⟩, by decide, rfl⟩ (Nat.le_of_ble_eq_true rfl) (Nat.le_of_ble_eq_true rfl) ?_
            refine q_aload_n rfl rfl ?_
            have kn_1281 : Hid (c_1270 41 5 = (-1)) := (hF_1272 41 5 (fun h => absurd h.2 (ni rfl))).trans (hc_1)
            have kn_1282 : Hid (c_1277 41 5 = (-1)) := (hF_1279 41 5 (fun h => absurd h.2 (ni rfl))).trans (hid kn_1281)
            refine v_gi (z := 5) (v := (-1)) rfl rfl rfl (by decide) rfl rfl (hid kn_1282) ?_
            refine q_iconst rfl ?_
            refine v_ic_ne_f (t := 12) rfl (by decide) (by decide) ?_
            refine q_iconst rfl ?_
            refine q_goto (t := 13) rfl (by decide) ?_
            refine v_zret rfl rfl (by decide) ?_
            refine bk_inl ?_
            refine v_if_ne_t (t := 115) rfl (by decide) (by decide) ?_
            refine q_aload_n rfl rfl ?_
            have kn_1283 : Hid (c_1277 41 3 = e1) := (hF_1279 41 3 (fun h => absurd h.2 (ni rfl))).trans (hid kn_1274)
            refine v_cv rfl rfl rfl rfl (by decide) ⟨⟨rfl, rfl⟩, by decide, rfl⟩ (Nat.le_of_ble_eq_true rfl) (Nat.le_of_ble_eq_true rfl) (f_159 (e1 := e1) (a9 := (nx F e1 a)) (B := H) (L8 := (ln F e1 (nx F e1 a))) hI_1278 ((hid kn_1283)) ((hz_1280)) (fun j => ((hF_1279 43 j (fun h => absurd h.1 (nn rfl))).trans ((hF_1272 43 j (fun h => absurd h.1 (nn rfl))).trans (hFc 43 j (fun q => q.elim (fun h => absurd h.1 (nn rfl)) (fun q => q.elim (fun h => absurd h.1 (nn rfl)) (fun q => q.elim (fun h => absurd h.1 (nn rfl)) (fun q => q.elim (fun h => absurd h.1 (nn rfl)) (fun q => q.elim (fun h => absurd h.1 (nn rfl)) (fun q => q.elim (fun h => absurd h.1 (nn rfl)) (fun q => q.elim (fun h => absurd h.1 (nn rfl)) (fun q => q.elim (fun h => absurd h (nn rfl)) (fun q => q.elim (fun h => absurd h (nn rfl)) (fun h => absurd h (nn rfl)))))))))))))).trans (hH j)) ((ln_tr hU (by omega) (by omega)).trans (rfl)) (fun c_1284 hI_1285 hF_1286 hz_1287 => ?_))
            refine bk_inl ?_
            refine q_aload_n rfl rfl ?_
            refine q_iload_n rfl rfl ?_
            have hw_1288 : (wv F (nx F e1 a) (ln F e1 (nx F e1 a))) = 153204 := by omega
            rw [hw_1288]
            have kn_1289 : Hid (c_103 1 1 = e1) := (hF_105 1 1 (fun q => q.elim (fun h => absurd h.2 (ni rfl)) (fun q => q.elim (fun h => absurd h.2 (ni rfl)) (fun h => absurd h.2 (ni rfl))))).trans (hid kn_82)
            have kn_1290 : Hid (c_1284 41 3 = e1) := (hF_1286 41 3 (fun h => absurd h.2 (ni rfl))).trans (hid kn_1283)
            have kn_1291 : Hid (c_1270 41 16 = jr) := (hF_1272 41 16 (fun h => absurd h.2 (ni rfl))).trans (hr_jr)
            have kn_1292 : Hid (c_1277 41 16 = jr) := (hF_1279 41 16 (fun h => absurd h.2 (ni rfl))).trans (hid kn_1291)
            have kn_1293 : Hid (c_1284 41 16 = jr) := (hF_1286 41 16 (fun h => absurd h.2 (ni rfl))).trans (hid kn_1292)
            have kn_1294 : Hid (c_1270 41 17 = st) := (hF_1272 41 17 (fun h => absurd h.2 (ni rfl))).trans (hr_st)
            have kn_1295 : Hid (c_1277 41 17 = st) := (hF_1279 41 17 (fun h => absurd h.2 (ni rfl))).trans (hid kn_1294)
            have kn_1296 : Hid (c_1284 41 17 = st) := (hF_1286 41 17 (fun h => absurd h.2 (ni rfl))).trans (hid kn_1295)
            have kn_1297 : Hid (c_1270 41 18 = si) := (hF_1272 41 18 (fun h => absurd h.2 (ni rfl))).trans (hr_si)
            have kn_1298 : Hid (c_1277 41 18 = si) := (hF_1279 41 18 (fun h => absurd h.2 (ni rfl))).trans (hid kn_1297)
            have kn_1299 : Hid (c_1284 41 18 = si) := (hF_1286 41 18 (fun h => absurd h.2 (ni rfl))).trans (hid kn_1298)
            have kn_1300 : Hid (c_27 A 3 = du) := (hF_29 A 3 (fun h => absurd h.1 (np0 hA rfl))).trans (hg_du)
            have kn_1301 : Hid (c_78 A 3 = du) := (hF_80 A 3 (fun h => absurd h.1 (np0 hA rfl))).trans (hid kn_1300)
            have kn_1302 : Hid (c_103 A 3 = du) := (hF_105 A 3 (fun q => q.elim (fun h => absurd h.1 (np0 hA rfl)) (fun q => q.elim (fun h => absurd h.1 (np0 hA rfl)) (fun h => absurd h.1 (np0 hA rfl))))).trans (hid kn_1301)
            have kn_1303 : Hid (c_1270 41 19 = du) := (hF_1272 41 19 (fun h => absurd h.2 (ni rfl))).trans (hr_du)
            have kn_1304 : Hid (c_1277 41 19 = du) := (hF_1279 41 19 (fun h => absurd h.2 (ni rfl))).trans (hid kn_1303)
            have kn_1305 : Hid (c_1284 41 19 = du) := (hF_1286 41 19 (fun h => absurd h.2 (ni rfl))).trans (hid kn_1304)
            have h_1306 : c_103 1 4 = 0 := (hz_109)
            have h_1307 : c_103 1 2 = (ln F e1 (nx F e1 a)) := (hz_108)
            have h_1308 : c_103 1 5 = (-1) := (hz_110)
            have kn_1309 : Hid (c_1284 41 5 = (-1)) := (hF_1286 41 5 (fun h => absurd h.2 (ni rfl))).trans (hid kn_1282)
            have h_1310 : c_1284 41 5 = (-1) := (hid kn_1309)
            have h_1311 : c_1284 41 4 = (ln F e1 (nx F e1 a)) := (hz_1287)
            have h_1312 := ir_41_6 hI2
            have kn_1313 : Hid (c_1270 41 6 = c2 41 6) := hF_1272 41 6 (fun h => absurd h.2 (ni rfl))
            have kn_1314 : Hid (c_1277 41 6 = c2 41 6) := (hF_1279 41 6 (fun h => absurd h.2 (ni rfl))).trans (hid kn_1313)
            have kn_1315 : Hid (c_1284 41 6 = c2 41 6) := (hF_1286 41 6 (fun h => absurd h.2 (ni rfl))).trans (hid kn_1314)
            have h_1316 : c_1284 41 6 = c2 41 6 := (hid kn_1315)
            refine v_cv rfl rfl rfl rfl (by decide) ⟨⟨rfl, rfl⟩, by decide, rfl⟩ (Nat.le_of_ble_eq_true rfl) (Nat.le_of_ble_eq_true rfl) (L_33_3 (m := c_103) (e1 := e1) (jr := jr) (st := st) (si := si) (du := du) (F := F) (H := H) hI_1285 hI_104 hI_1254 hA ((hid kn_1289)) ((hid kn_1290)) ((hid kn_1243)) ((hid kn_1293)) ((hid kn_1247)) ((hid kn_1296)) ((hid kn_1251)) ((hid kn_1299)) ((hid kn_1302)) ((hid kn_1305)) (fun j => ((hF_105 2 j (fun q => q.elim (fun h => absurd h.1 (nn rfl)) (fun q => q.elim (fun h => absurd h.1 (nn rfl)) (fun h => absurd h.1 (nn rfl))))).trans ((hF_80 2 j (fun h => absurd h.1 (nn rfl))).trans ((hF_29 2 j (fun h => absurd h.1 (nn rfl))).trans (hFm 2 j (fun q => q.elim (fun h => absurd h.1 (nn rfl)) (fun q => q.elim (fun h => absurd h.1 (nn rfl)) (fun q => q.elim (fun h => absurd h.1 (nn rfl)) (fun q => q.elim (fun h => absurd h.1 (pn0 hA rfl)) (fun q => q.elim (fun h => absurd h.1 (pn0 hA rfl)) (fun q => q.elim (fun h => absurd h.1 (pn0 hA rfl)) (fun q => q.elim (fun h => absurd h.1 (pn0 hA rfl)) (fun q => q.elim (fun h => absurd h (pn hA rfl rfl)) (fun q => q.elim (fun h => absurd h (pn hA rfl rfl)) (fun q => q.elim (fun h => absurd h (pn hA rfl rfl)) (fun q => q.elim (fun h => absurd h.1 (pn0 hA rfl)) (fun q => q.elim (fun h => absurd h.1 (pn0 hA rfl)) (fun q => q.elim (fun h => absurd h (pn hA rfl rfl)) (fun h => absurd h.1 (pn hA rfl rfl))))))))))))))))))).trans (hF j)) (fun j => ((hF_1286 43 j (fun h => absurd h.1 (nn rfl))).trans ((hF_1279 43 j (fun h => absurd h.1 (nn rfl))).trans ((hF_1272 43 j (fun h => absurd h.1 (nn rfl))).trans (hFc 43 j (fun q => q.elim (fun h => absurd h.1 (nn rfl)) (fun q => q.elim (fun h => absurd h.1 (nn rfl)) (fun q => q.elim (fun h => absurd h.1 (nn rfl)) (fun q => q.elim (fun h => absurd h.1 (nn rfl)) (fun q => q.elim (fun h => absurd h.1 (nn rfl)) (fun q => q.elim (fun h => absurd h.1 (nn rfl)) (fun q => q.elim (fun h => absurd h.1 (nn rfl)) (fun q => q.elim (fun h => absurd h (nn rfl)) (fun q => q.elim (fun h => absurd h (nn rfl)) (fun h => absurd h (nn rfl))))))))))))))).trans (hH j)) hU (by unfold Rt; omega) hG_1256 (fun c_1317 hI_1318 hF_1319 hR_1321 h_1322 h_1323 h_1324 h_1325 => ?_))
            refine bk_inl ?_
            have h_1326 := ir_41_16 hI_1318
            have h_1327 := ir_p0_0 hI_1254 hA
            have h_1328 := ir_41_17 hI_1318
            have h_1329 := ir_p0_1 hI_1254 hA
            have h_1330 := ir_41_18 hI_1318
            have h_1331 := ir_p0_2 hI_1254 hA
            have h_1332 := ir_41_19 hI_1318
            have h_1333 := ir_p0_3 hI_1254 hA
            refine q_aload_n rfl rfl ?_
            refine v_bip rfl (by decide) ?_
            have kn_1334 : Hid (c_1253 1 1 = e1) := (hF_1255 1 1 (fun q => q.elim (fun h => absurd h.2 (ni rfl)) (fun q => q.elim (fun h => absurd h.2 (ni rfl)) (fun q => q.elim (fun h => absurd h.2 (ni rfl)) (fun q => q.elim (fun h => absurd h.1 (pn0 hA rfl)) (fun q => q.elim (fun h => absurd h.1 (pn0 hA rfl)) (fun q => q.elim (fun h => absurd h.1 (pn0 hA rfl)) (fun q => q.elim (fun h => absurd h.1 (pn0 hA rfl)) (fun q => q.elim (fun h => absurd h (pn hA rfl rfl)) (fun q => q.elim (fun h => absurd h (pn hA rfl rfl)) (fun h => absurd h (pn hA rfl rfl)))))))))))).trans (hid kn_1289)
            have kn_1335 : Hid (c_1317 41 3 = e1) := (hF_1319 41 3 (fun q => q.elim (fun h => absurd h.2 (ni rfl)) (fun q => q.elim (fun h => absurd h.2 (ni rfl)) (fun q => q.elim (fun h => absurd h.2 (ni rfl)) (fun q => q.elim (fun h => absurd h.2 (ni rfl)) (fun q => q.elim (fun h => absurd h.2 (ni rfl)) (fun q => q.elim (fun h => absurd h.2 (ni rfl)) (fun q => q.elim (fun h => absurd h.2 (ni rfl)) (fun q => q.elim (fun h => absurd h (nn rfl)) (fun q => q.elim (fun h => absurd h (nn rfl)) (fun h => absurd h (nn rfl)))))))))))).trans (hid kn_1290)
            have h_1336 := ir_1_2 hI_1254
            refine v_cv rfl rfl rfl rfl (by decide) ⟨⟨rfl, rfl⟩, by decide, rfl⟩ (Nat.le_of_ble_eq_true rfl) (Nat.le_of_ble_eq_true rfl) (L_11_9 (m := c_1253) (e1 := e1) (a9 := c_1253 1 2) (F := F) (H := H) hI_1318 hI_1254 hI_1259 ((hid kn_1334)) ((hid kn_1335)) (rfl) (fun j => ((hF_1255 2 j (fun q => q.elim (fun h => absurd h.1 (nn rfl)) (fun q => q.elim (fun h => absurd h.1 (nn rfl)) (fun q => q.elim (fun h => absurd h.1 (nn rfl)) (fun q => q.elim (fun h => absurd h.1 (pn0 hA rfl)) (fun q => q.elim (fun h => absurd h.1 (pn0 hA rfl)) (fun q => q.elim (fun h => absurd h.1 (pn0 hA rfl)) (fun q => q.elim (fun h => absurd h.1 (pn0 hA rfl)) (fun q => q.elim (fun h => absurd h (pn hA rfl rfl)) (fun q => q.elim (fun h => absurd h (pn hA rfl rfl)) (fun h => absurd h (pn hA rfl rfl)))))))))))).trans ((hF_105 2 j (fun q => q.elim (fun h => absurd h.1 (nn rfl)) (fun q => q.elim (fun h => absurd h.1 (nn rfl)) (fun h => absurd h.1 (nn rfl))))).trans ((hF_80 2 j (fun h => absurd h.1 (nn rfl))).trans ((hF_29 2 j (fun h => absurd h.1 (nn rfl))).trans (hFm 2 j (fun q => q.elim (fun h => absurd h.1 (nn rfl)) (fun q => q.elim (fun h => absurd h.1 (nn rfl)) (fun q => q.elim (fun h => absurd h.1 (nn rfl)) (fun q => q.elim (fun h => absurd h.1 (pn0 hA rfl)) (fun q => q.elim (fun h => absurd h.1 (pn0 hA rfl)) (fun q => q.elim (fun h => absurd h.1 (pn0 hA rfl)) (fun q => q.elim (fun h => absurd h.1 (pn0 hA rfl)) (fun q => q.elim (fun h => absurd h (pn hA rfl rfl)) (fun q => q.elim (fun h => absurd h (pn hA rfl rfl)) (fun q => q.elim (fun h => absurd h (pn hA rfl rfl)) (fun q => q.elim (fun h => absurd h.1 (pn0 hA rfl)) (fun q => q.elim (fun h => absurd h.1 (pn0 hA rfl)) (fun q => q.elim (fun h => absurd h (pn hA rfl rfl)) (fun h => absurd h.1 (pn hA rfl rfl)))))))))))))))))))).trans (hF j)) (fun j => ((hF_1319 43 j (fun q => q.elim (fun h => absurd h.1 (nn rfl)) (fun q => q.elim (fun h => absurd h.1 (nn rfl)) (fun q => q.elim (fun h => absurd h.1 (nn rfl)) (fun q => q.elim (fun h => absurd h.1 (nn rfl)) (fun q => q.elim (fun h => absurd h.1 (nn rfl)) (fun q => q.elim (fun h => absurd h.1 (nn rfl)) (fun q => q.elim (fun h => absurd h.1 (nn rfl)) (fun q => q.elim (fun h => absurd h (nn rfl)) (fun q => q.elim (fun h => absurd h (nn rfl)) (fun h => absurd h (nn rfl)))))))))))).trans ((hF_1286 43 j (fun h => absurd h.1 (nn rfl))).trans ((hF_1279 43 j (fun h => absurd h.1 (nn rfl))).trans ((hF_1272 43 j (fun h => absurd h.1 (nn rfl))).trans (hFc 43 j (fun q => q.elim (fun h => absurd h.1 (nn rfl)) (fun q => q.elim (fun h => absurd h.1 (nn rfl)) (fun q => q.elim (fun h => absurd h.1 (nn rfl)) (fun q => q.elim (fun h => absurd h.1 (nn rfl)) (fun q => q.elim (fun h => absurd h.1 (nn rfl)) (fun q => q.elim (fun h => absurd h.1 (nn rfl)) (fun q => q.elim (fun h => absurd h.1 (nn rfl)) (fun q => q.elim (fun h => absurd h (nn rfl)) (fun q => q.elim (fun h => absurd h (nn rfl)) (fun h => absurd h (nn rfl)))))))))))))))).trans (hH j)) hU hR_1321 hG_1261 (fun c_1337 hI_1338 hF_1339 hR_1341 h_1342 => ?_))
            refine bk_inl ?_
            have h_1343 := ir_1_2 hI_1259
            refine v_iinc (v := v + 1) rfl rfl (by decide) (by omega) ?_
            refine q_goto (t := 44) rfl (by decide) ?_
            refine Wp_ls [(0, .ref 41), (1, vi a1), (2, vi (v + 1))] (lsub_cons rfl (lsub_cons rfl (lsub_cons rfl lsub_nil))) ?_
            have h_1344 := ir_41_4 hI_1338
            have h_1345 := ir_1_5 hI_1259
            have h_1346 := ir_41_5 hI_1338
            have h_1347 := ir_41_6 hI_1338
            have h_1348 := rt_ok hR_1341 (by omega)
            have hro_hR_1341 := rt_ok hR_1341 (by omega)
            have kn_1349 : Hid (c_1258 A 0 = c_1253 A 0) := hF_1260 A 0 (fun q => q.elim (fun h => absurd h.1 (np0 hA rfl)) (fun q => q.elim (fun h => absurd h.1 (np0 hA rfl)) (fun h => absurd h.1 (np0 hA rfl))))
            have kn_1350 : Hid (c_1337 41 16 = c_1317 41 16) := hF_1339 41 16 (fun q => q.elim (fun h => absurd h.2 (ni rfl)) (fun q => q.elim (fun h => absurd h.2 (ni rfl)) (fun h => absurd h.2 (ni rfl))))
            have kn_1351 : Hid (c_1258 A 1 = c_1253 A 1) := hF_1260 A 1 (fun q => q.elim (fun h => absurd h.1 (np0 hA rfl)) (fun q => q.elim (fun h => absurd h.1 (np0 hA rfl)) (fun h => absurd h.1 (np0 hA rfl))))
            have kn_1352 : Hid (c_1337 41 17 = c_1317 41 17) := hF_1339 41 17 (fun q => q.elim (fun h => absurd h.2 (ni rfl)) (fun q => q.elim (fun h => absurd h.2 (ni rfl)) (fun h => absurd h.2 (ni rfl))))
            have kn_1353 : Hid (c_1258 A 2 = c_1253 A 2) := hF_1260 A 2 (fun q => q.elim (fun h => absurd h.1 (np0 hA rfl)) (fun q => q.elim (fun h => absurd h.1 (np0 hA rfl)) (fun h => absurd h.1 (np0 hA rfl))))
            have kn_1354 : Hid (c_1337 41 18 = c_1317 41 18) := hF_1339 41 18 (fun q => q.elim (fun h => absurd h.2 (ni rfl)) (fun q => q.elim (fun h => absurd h.2 (ni rfl)) (fun h => absurd h.2 (ni rfl))))
            have kn_1355 : Hid (c_1258 A 3 = c_1253 A 3) := hF_1260 A 3 (fun q => q.elim (fun h => absurd h.1 (np0 hA rfl)) (fun q => q.elim (fun h => absurd h.1 (np0 hA rfl)) (fun h => absurd h.1 (np0 hA rfl))))
            have kn_1356 : Hid (c_1337 41 19 = c_1317 41 19) := hF_1339 41 19 (fun q => q.elim (fun h => absurd h.2 (ni rfl)) (fun q => q.elim (fun h => absurd h.2 (ni rfl)) (fun h => absurd h.2 (ni rfl))))
            exact ih c_1337 c_1258 (v + 1) (c_1258 1 2) (c_1253 A 0) (c_1253 A 1) (c_1253 A 2) (c_1253 A 3) hI_1338 (fun a j hm => (hF_1339 a j (fun q => q.elim (fun h => hm (Or.inl h)) (fun q => q.elim (fun h => hm (Or.inr (Or.inl h))) (fun h => hm (Or.inr (Or.inr (Or.inl h))))))).trans ((hF_1319 a j (fun q => q.elim (fun h => hm (Or.inl h)) (fun q => q.elim (fun h => hm (Or.inr (Or.inl h))) (fun q => q.elim (fun h => hm (Or.inr (Or.inr (Or.inl h)))) (fun q => q.elim (fun h => hm (Or.inr (Or.inr (Or.inr (Or.inl h))))) (fun q => q.elim (fun h => hm (Or.inr (Or.inr (Or.inr (Or.inr (Or.inl h)))))) (fun q => q.elim (fun h => hm (Or.inr (Or.inr (Or.inr (Or.inr (Or.inr (Or.inl h))))))) (fun q => q.elim (fun h => hm (Or.inr (Or.inr (Or.inr (Or.inr (Or.inr (Or.inr (Or.inl h)))))))) (fun q => q.elim (fun h => hm (Or.inr (Or.inr (Or.inr (Or.inr (Or.inr (Or.inr (Or.inr (Or.inl h))))))))) (fun q => q.elim (fun h => hm (Or.inr (Or.inr (Or.inr (Or.inr (Or.inr (Or.inr (Or.inr (Or.inr (Or.inl h)))))))))) (fun h => hm (Or.inr (Or.inr (Or.inr (Or.inr (Or.inr (Or.inr (Or.inr (Or.inr (Or.inr h)))))))))))))))))))).trans ((hF_1286 a j (fun h => hm (Or.inl h))).trans ((hF_1279 a j (fun h => hm (Or.inl h))).trans ((hF_1272 a j (fun h => hm (Or.inl h))).trans (hFc a j (fun q => q.elim (fun h => hm (Or.inl h)) (fun q => q.elim (fun h => hm (Or.inr (Or.inl h))) (fun q => q.elim (fun h => hm (Or.inr (Or.inr (Or.inl h)))) (fun q => q.elim (fun h => hm (Or.inr (Or.inr (Or.inr (Or.inl h))))) (fun q => q.elim (fun h => hm (Or.inr (Or.inr (Or.inr (Or.inr (Or.inl h)))))) (fun q => q.elim (fun h => hm (Or.inr (Or.inr (Or.inr (Or.inr (Or.inr (Or.inl h))))))) (fun q => q.elim (fun h => hm (Or.inr (Or.inr (Or.inr (Or.inr (Or.inr (Or.inr (Or.inl h)))))))) (fun q => q.elim (fun h => hm (Or.inr (Or.inr (Or.inr (Or.inr (Or.inr (Or.inr (Or.inr (Or.inl h))))))))) (fun q => q.elim (fun h => hm (Or.inr (Or.inr (Or.inr (Or.inr (Or.inr (Or.inr (Or.inr (Or.inr (Or.inl h)))))))))) (fun h => hm (Or.inr (Or.inr (Or.inr (Or.inr (Or.inr (Or.inr (Or.inr (Or.inr (Or.inr h))))))))))))))))))))))))) hI_1259 (fun a j hm => (hF_1260 a j (fun q => q.elim (fun h => hm (Or.inl h)) (fun q => q.elim (fun h => hm (Or.inr (Or.inl h))) (fun h => hm (Or.inr (Or.inr (Or.inl h))))))).trans ((hF_1255 a j (fun q => q.elim (fun h => hm (Or.inl h)) (fun q => q.elim (fun h => hm (Or.inr (Or.inl h))) (fun q => q.elim (fun h => hm (Or.inr (Or.inr (Or.inl h)))) (fun q => q.elim (fun h => hm (Or.inr (Or.inr (Or.inr (Or.inl h))))) (fun q => q.elim (fun h => hm (Or.inr (Or.inr (Or.inr (Or.inr (Or.inl h)))))) (fun q => q.elim (fun h => hm (Or.inr (Or.inr (Or.inr (Or.inr (Or.inr (Or.inl h))))))) (fun q => q.elim (fun h => hm (Or.inr (Or.inr (Or.inr (Or.inr (Or.inr (Or.inr (Or.inl h)))))))) (fun q => q.elim (fun h => hm (Or.inr (Or.inr (Or.inr (Or.inr (Or.inr (Or.inr (Or.inr (Or.inl h))))))))) (fun q => q.elim (fun h => hm (Or.inr (Or.inr (Or.inr (Or.inr (Or.inr (Or.inr (Or.inr (Or.inr (Or.inl h)))))))))) (fun h => hm (Or.inr (Or.inr (Or.inr (Or.inr (Or.inr (Or.inr (Or.inr (Or.inr (Or.inr (Or.inl h))))))))))))))))))))).trans ((hF_105 a j (fun q => q.elim (fun h => hm (Or.inl h)) (fun q => q.elim (fun h => hm (Or.inr (Or.inl h))) (fun h => hm (Or.inr (Or.inr (Or.inl h))))))).trans ((hF_80 a j (fun h => hm (Or.inl h))).trans ((hF_29 a j (fun h => hm (Or.inl h))).trans (hFm a j (fun q => q.elim (fun h => hm (Or.inl h)) (fun q => q.elim (fun h => hm (Or.inr (Or.inl h))) (fun q => q.elim (fun h => hm (Or.inr (Or.inr (Or.inl h)))) (fun q => q.elim (fun h => hm (Or.inr (Or.inr (Or.inr (Or.inl h))))) (fun q => q.elim (fun h => hm (Or.inr (Or.inr (Or.inr (Or.inr (Or.inl h)))))) (fun q => q.elim (fun h => hm (Or.inr (Or.inr (Or.inr (Or.inr (Or.inr (Or.inl h))))))) (fun q => q.elim (fun h => hm (Or.inr (Or.inr (Or.inr (Or.inr (Or.inr (Or.inr (Or.inl h)))))))) (fun q => q.elim (fun h => hm (Or.inr (Or.inr (Or.inr (Or.inr (Or.inr (Or.inr (Or.inr (Or.inl h))))))))) (fun q => q.elim (fun h => hm (Or.inr (Or.inr (Or.inr (Or.inr (Or.inr (Or.inr (Or.inr (Or.inr (Or.inl h)))))))))) (fun q => q.elim (fun h => hm (Or.inr (Or.inr (Or.inr (Or.inr (Or.inr (Or.inr (Or.inr (Or.inr (Or.inr (Or.inl h))))))))))) (fun q => q.elim (fun h => hm (Or.inr (Or.inr (Or.inr (Or.inr (Or.inr (Or.inr (Or.inr (Or.inr (Or.inr (Or.inr (Or.inl h)))))))))))) (fun q => q.elim (fun h => hm (Or.inr (Or.inr (Or.inr (Or.inr (Or.inr (Or.inr (Or.inr (Or.inr (Or.inr (Or.inr (Or.inr (Or.inl h))))))))))))) (fun q => q.elim (fun h => hm (Or.inr (Or.inr (Or.inr (Or.inr (Or.inr (Or.inr (Or.inr (Or.inr (Or.inr (Or.inr (Or.inr (Or.inr (Or.inl h)))))))))))))) (fun h => hm (Or.inr (Or.inr (Or.inr (Or.inr (Or.inr (Or.inr (Or.inr (Or.inr (Or.inr (Or.inr (Or.inr (Or.inr (Or.inr h))))))))))))))))))))))))))))))))) ⟨by omega, by omega⟩ ⟨by omega, by omega⟩ ⟨by omega, by omega⟩ ⟨by omega, by omega⟩ ⟨by omega, by omega⟩ ⟨by omega, by omega⟩ (rfl) (hro_hR_1341.2.2.1) ((hid kn_1349)) ((show _ = c_1317 41 16 from (hid kn_1350)).trans (by omega)) ((hid kn_1351)) ((show _ = c_1317 41 17 from (hid kn_1352)).trans (by omega)) ((hid kn_1353)) ((show _ = c_1317 41 18 from (hid kn_1354)).trans (by omega)) ((hid kn_1355)) ((show _ = c_1317 41 19 from (hid kn_1356)).trans (by omega)) ((show _ = c_1258 1 4 from rfl).trans (by omega)) (hro_hR_1341.2.1) ((show _ = c_1258 1 5 from rfl).trans (by omega)) hG_1264 (by omega)
          · skip
            refine q_iload_n rfl rfl ?_
            refine v_bip rfl (by decide) ?_
            refine v_ic_gt_f (t := 85) rfl (by decide) (by omega) ?_
            refine q_aload_n rfl rfl ?_
            refine v_cv rfl rfl rfl rfl (by decide) ⟨⟨rfl, rfl⟩, by decide, rfl⟩ (Nat.le_of_ble_eq_true rfl) (Nat.le_of_ble_eq_true rfl) ?_
            refine q_aload_n rfl rfl ?_
            refine v_cv rfl rfl rfl rfl (by decide) ⟨⟨rfl, rfl⟩, by decide, rfl⟩ (Nat.le_of_ble_eq_true rfl) (Nat.le_of_ble_eq_true rfl) ?_
            refine q_aload_n rfl rfl ?_
            refine v_gi (z := 4) (v := c_1258 1 4) rfl rfl rfl (by decide) rfl rfl rfl ?_
            refine v_if_ne_t (t := 11) rfl (by decide) (by omega) ?_
            refine q_iconst rfl ?_
            refine v_zret rfl rfl (by decide) ?_
            refine bk_inl ?_
            refine v_if_eq_t (t := 22) rfl (by decide) (by decide) ?_
            refine q_iconst rfl ?_
            refine v_zret rfl rfl (by decide) ?_
            refine bk_inl ?_
            refine v_if_eq_t (t := 85) rfl (by decide) (by decide) ?_
            refine q_vret rfl rfl ?_
            intro hE_1357
            have hW : Wd P Q P P c_1258 = Wd P Q P P m9 := (Prod.mk.inj (Prod.mk.inj hE_1357).2).1
            have h_1358 := ir_1_4 hJ9
            have h_1359 : m9 1 4 = c_1258 1 4 := wd_fv (z := 4) 4 rfl hW rfl rfl rfl rfl (by decide) rfl ⟨by omega, by omega⟩ ⟨by omega, by omega⟩
            have h_1360 := ir_1_2 hI_1259
            have h_1361 := ir_1_2 hJ9
            have h_1362 : m9 1 2 = c_1258 1 2 := wd_fv (z := 2) 2 rfl hW rfl rfl rfl rfl (by decide) rfl ⟨by omega, by omega⟩ ⟨by omega, by omega⟩
            have h_1363 := ir_1_5 hI_1259
            have h_1364 := ir_1_5 hJ9
            have h_1365 : m9 1 5 = c_1258 1 5 := wd_fv (z := 5) 5 rfl hW rfl rfl rfl rfl (by decide) rfl ⟨by omega, by omega⟩ ⟨by omega, by omega⟩
            have h_1366 := ir_p0_0 hI_1254 hA
            have kn_1367 : Hid (c_1258 A 0 = c_1253 A 0) := hF_1260 A 0 (fun q => q.elim (fun h => absurd h.1 (np0 hA rfl)) (fun q => q.elim (fun h => absurd h.1 (np0 hA rfl)) (fun h => absurd h.1 (np0 hA rfl))))
            have h_1368 := ir_p0_0 hJ9 hA
            have h_1369 : m9 A 0 = c_1253 A 0 := wd_fv (z := 0) 0 rfl hW (ck_p0 hA) (ck_p0 hA) rfl rfl (by omega) (hid kn_1367) ⟨by omega, by omega⟩ ⟨by omega, by omega⟩
            have h_1370 := ir_p0_1 hI_1254 hA
            have kn_1371 : Hid (c_1258 A 1 = c_1253 A 1) := hF_1260 A 1 (fun q => q.elim (fun h => absurd h.1 (np0 hA rfl)) (fun q => q.elim (fun h => absurd h.1 (np0 hA rfl)) (fun h => absurd h.1 (np0 hA rfl))))
            have h_1372 := ir_p0_1 hJ9 hA
            have h_1373 : m9 A 1 = c_1253 A 1 := wd_fv (z := 1) 1 rfl hW (ck_p0 hA) (ck_p0 hA) rfl rfl (by omega) (hid kn_1371) ⟨by omega, by omega⟩ ⟨by omega, by omega⟩
            have h_1374 := ir_p0_2 hI_1254 hA
            have kn_1375 : Hid (c_1258 A 2 = c_1253 A 2) := hF_1260 A 2 (fun q => q.elim (fun h => absurd h.1 (np0 hA rfl)) (fun q => q.elim (fun h => absurd h.1 (np0 hA rfl)) (fun h => absurd h.1 (np0 hA rfl))))
            have h_1376 := ir_p0_2 hJ9 hA
            have h_1377 : m9 A 2 = c_1253 A 2 := wd_fv (z := 2) 2 rfl hW (ck_p0 hA) (ck_p0 hA) rfl rfl (by omega) (hid kn_1375) ⟨by omega, by omega⟩ ⟨by omega, by omega⟩
            have h_1378 := ir_p0_3 hI_1254 hA
            have kn_1379 : Hid (c_1258 A 3 = c_1253 A 3) := hF_1260 A 3 (fun q => q.elim (fun h => absurd h.1 (np0 hA rfl)) (fun q => q.elim (fun h => absurd h.1 (np0 hA rfl)) (fun h => absurd h.1 (np0 hA rfl))))
            have h_1380 := ir_p0_3 hJ9 hA
            have h_1381 : m9 A 3 = c_1253 A 3 := wd_fv (z := 3) 3 rfl hW (ck_p0 hA) (ck_p0 hA) rfl rfl (by omega) (hid kn_1379) ⟨by omega, by omega⟩ ⟨by omega, by omega⟩
            refine q_aload_n rfl rfl ?_
            refine v_cv rfl rfl rfl rfl (by decide) ⟨⟨rfl, rfl⟩, by decide, rfl⟩ (Nat.le_of_ble_eq_true rfl) (Nat.le_of_ble_eq_true rfl) ?_
            refine q_aload_n rfl rfl ?_
            refine v_gi (z := 5) (v := (-1)) rfl rfl rfl (by decide) rfl rfl (hc_1) ?_
            refine q_iconst rfl ?_
            refine v_ic_ne_f (t := 12) rfl (by decide) (by decide) ?_
            refine q_iconst rfl ?_
            refine q_goto (t := 13) rfl (by decide) ?_
            refine v_zret rfl rfl (by decide) ?_
            refine bk_inl ?_
            refine v_if_eq_f (t := 136) rfl (by decide) (by decide) ?_
            refine q_aload_n rfl rfl ?_
            refine v_cv rfl rfl rfl rfl (by decide) ⟨⟨rfl, rfl⟩, by decide, rfl⟩ (Nat.le_of_ble_eq_true rfl) (Nat.le_of_ble_eq_true rfl) ?_
            refine q_aload_n rfl rfl ?_
            have kn_1382 : Hid (c2 41 3 = e1) := (hFc 41 3 (fun q => q.elim (fun h => absurd h.2 (ni rfl)) (fun q => q.elim (fun h => absurd h.2 (ni rfl)) (fun q => q.elim (fun h => absurd h.2 (ni rfl)) (fun q => q.elim (fun h => absurd h.2 (ni rfl)) (fun q => q.elim (fun h => absurd h.2 (ni rfl)) (fun q => q.elim (fun h => absurd h.2 (ni rfl)) (fun q => q.elim (fun h => absurd h.2 (ni rfl)) (fun q => q.elim (fun h => absurd h (nn rfl)) (fun q => q.elim (fun h => absurd h (nn rfl)) (fun h => absurd h (nn rfl)))))))))))).trans (hr_e1)
            have h_1383 : -2147483648 ≤ (H (nx F e1 a)) ∧ (H (nx F e1 a)) ≤ 2147483647 := by rw [← hH (nx F e1 a)]; exact ir_43 hI (nx F e1 a)
            have h_1384 := hU (nx F e1 a) (by omega) (by omega)
            have h_1385 := hb_or (b := H) (e := e1) (r := (nx F e1 a))
            have h_1386 := hb_bd (b := H) (e := e1) (r := (nx F e1 a)) (lo := -2147483648) (hi := 2147483647) ⟨by omega, by omega⟩ (by decide)
            refine v_cv rfl rfl rfl rfl (by decide) ⟨⟨rfl, rfl⟩, by decide, rfl⟩ (Nat.le_of_ble_eq_true rfl) (Nat.le_of_ble_eq_true rfl) (f_154 (e1 := e1) (a9 := a) (B := H) (r8 := (nx F e1 a)) (r := (hb H e1 (nx F e1 a))) hI2 ((hid kn_1382)) ((hr_a)) (fun j => (hFc 43 j (fun q => q.elim (fun h => absurd h.1 (nn rfl)) (fun q => q.elim (fun h => absurd h.1 (nn rfl)) (fun q => q.elim (fun h => absurd h.1 (nn rfl)) (fun q => q.elim (fun h => absurd h.1 (nn rfl)) (fun q => q.elim (fun h => absurd h.1 (nn rfl)) (fun q => q.elim (fun h => absurd h.1 (nn rfl)) (fun q => q.elim (fun h => absurd h.1 (nn rfl)) (fun q => q.elim (fun h => absurd h (nn rfl)) (fun q => q.elim (fun h => absurd h (nn rfl)) (fun h => absurd h (nn rfl)))))))))))).trans (hH j)) ((nx_tr hU (by omega) (by omega)).trans (rfl)) rfl (fun c_1387 hI_1388 hF_1389 h_1390 => ?_))
            refine bk_inl ?_
            refine q_pop rfl rfl ?_
            refine q_aload_n rfl rfl ?_
            refine v_gi (z := 4) (v := (nx F e1 a)) rfl rfl rfl (by decide) rfl rfl (h_1390) ?_
            refine q_aload_n rfl rfl ?_
            have kn_1391 : Hid (c_1387 41 3 = e1) := (hF_1389 41 3 (fun h => absurd h.2 (ni rfl))).trans (hid kn_1382)
            refine v_gi (z := 3) (v := e1) rfl rfl rfl (by decide) rfl rfl (hid kn_1391) ?_
            refine v_ic_ge_f (t := 20) rfl (by decide) (by omega) ?_
            refine q_iconst rfl ?_
            refine q_goto (t := 21) rfl (by decide) ?_
            refine v_zret rfl rfl (by decide) ?_
            refine bk_inl ?_
            refine v_if_eq_f (t := 136) rfl (by decide) (by decide) ?_
            refine q_aload_n rfl rfl ?_
            have h_1392 := wv_bd (b := F) (r := (nx F e1 a)) (l := (ln F e1 (nx F e1 a))) (fun j h1 h2 => ⟨(ln_in (e := e1) (a := (nx F e1 a)) h1 (by omega)).1, (ln_in (e := e1) (a := (nx F e1 a)) h1 (by omega)).2.1⟩)
            have h_1393 := wr8_3 (b := F) (r := (nx F e1 a)) (l := (ln F e1 (nx F e1 a))) (by omega) (fun j h1 h2 => ⟨(ln_in (e := e1) (a := (nx F e1 a)) h1 (by omega)).1, (ln_in (e := e1) (a := (nx F e1 a)) h1 (by omega)).2.1⟩) (by omega)
            refine v_cv rfl rfl rfl rfl (by decide) ⟨⟨rfl, rfl⟩, by decide, rfl⟩ (Nat.le_of_ble_eq_true rfl) (Nat.le_of_ble_eq_true rfl) (f_157 (e1 := e1) (a9 := (nx F e1 a)) (B := H) (r8 := (nx F e1 a)) (L8 := (ln F e1 (nx F e1 a))) (W8 := (wv F (nx F e1 a) (ln F e1 (nx F e1 a)))) hI_1388 ((hid kn_1391)) ((h_1390)) (fun j => ((hF_1389 43 j (fun h => absurd h.1 (nn rfl))).trans (hFc 43 j (fun q => q.elim (fun h => absurd h.1 (nn rfl)) (fun q => q.elim (fun h => absurd h.1 (nn rfl)) (fun q => q.elim (fun h => absurd h.1 (nn rfl)) (fun q => q.elim (fun h => absurd h.1 (nn rfl)) (fun q => q.elim (fun h => absurd h.1 (nn rfl)) (fun q => q.elim (fun h => absurd h.1 (nn rfl)) (fun q => q.elim (fun h => absurd h.1 (nn rfl)) (fun q => q.elim (fun h => absurd h (nn rfl)) (fun q => q.elim (fun h => absurd h (nn rfl)) (fun h => absurd h (nn rfl))))))))))))).trans (hH j)) ((nx_tr hU (by omega) (by omega)).trans ((nx_z (by omega)))) ((ln_tr hU (by omega) (by omega)).trans (rfl)) ((wv_tr hU (by omega) (by omega) (fun j h1 h2 => ⟨(ln_in (e := e1) (a := (nx F e1 a)) h1 (by omega)).1, (ln_in (e := e1) (a := (nx F e1 a)) h1 (by omega)).2.1⟩)).trans (rfl)) (fun c_1394 hI_1395 hF_1396 hz_1397 => ?_))
            refine bk_inl ?_
            refine q_istore_n rfl (by decide) ?_
            refine q_iload_n rfl rfl ?_
            refine q_call rfl rfl rfl rfl ?_
            refine q_iload_n rfl rfl ?_
            refine q_ldc_s rfl rfl rfl (by decide) ?_
            refine q_call rfl rfl rfl rfl (s_158_16 ?_)
            refine bk_inl ?_
            refine v_ic_eq_f (t := 36) rfl (by decide) (by omega) ?_
            refine q_iload_n rfl rfl ?_
            refine q_ldc_s rfl rfl rfl (by decide) ?_
            refine q_call rfl rfl rfl rfl (s_158_17 ?_)
            refine bk_inl ?_
            refine v_ic_eq_f (t := 36) rfl (by decide) (by omega) ?_
            refine q_iload_n rfl rfl ?_
            refine q_ldc_s rfl rfl rfl (by decide) ?_
            refine q_call rfl rfl rfl rfl (s_158_18 ?_)
            refine bk_inl ?_
            refine v_ic_eq_f (t := 36) rfl (by decide) (by omega) ?_
            refine q_iload_n rfl rfl ?_
            refine q_ldc_s rfl rfl rfl (by decide) ?_
            refine q_call rfl rfl rfl rfl (s_158_19 ?_)
            refine bk_inl ?_
            refine v_ic_ne_f (t := 40) rfl (by decide) (by omega) ?_
            refine q_iconst rfl ?_
            refine q_goto (t := 41) rfl (by decide) ?_
            refine v_zret rfl rfl (by decide) ?_
            refine bk_inl ?_
            refine v_if_ne_t (t := 82) rfl (by decide) (by decide) ?_
            refine q_iload_n rfl rfl ?_
            refine v_bip rfl (by decide) ?_
            refine v_ic_eq_f (t := 96) rfl (by decide) (by omega) ?_
            refine q_aload_n rfl rfl ?_
            refine q_iload_n rfl rfl ?_
            refine v_cv rfl rfl rfl rfl (by decide) ⟨⟨rfl, rfl⟩, by decide, rfl⟩ (Nat.le_of_ble_eq_true rfl) (Nat.le_of_ble_eq_true rfl) ?_
            refine q_iload_n rfl rfl ?_
            refine q_ldc_s rfl rfl rfl (by decide) ?_
            refine q_call rfl rfl rfl rfl (s_158_16 ?_)
            refine bk_inl ?_
            refine v_ic_ne_t (t := 26) rfl (by decide) (by omega) ?_
            refine q_iload_n rfl rfl ?_
            refine q_ldc_s rfl rfl rfl (by decide) ?_
            refine q_call rfl rfl rfl rfl (s_158_17 ?_)
            refine bk_inl ?_
            refine v_ic_ne_t (t := 51) rfl (by decide) (by omega) ?_
            refine q_iload_n rfl rfl ?_
            refine q_ldc_s rfl rfl rfl (by decide) ?_
            refine q_call rfl rfl rfl rfl (s_158_18 ?_)
            refine bk_inl ?_
            refine v_ic_ne_t (t := 72) rfl (by decide) (by omega) ?_
            refine q_iconst rfl ?_
            refine v_zret rfl rfl (by decide) ?_
            refine bk_inl ?_
            refine v_if_eq_t (t := 105) rfl (by decide) (by decide) ?_
            refine q_aload_n rfl rfl ?_
            refine v_cv rfl rfl rfl rfl (by decide) ⟨⟨rfl, rfl⟩, by decide, rfl⟩ (Nat.le_of_ble_eq_true rfl) (Nat.le_of_ble_eq_true rfl) ?_
            refine q_aload_n rfl rfl ?_
            have kn_1398 : Hid (c_1387 41 5 = (-1)) := (hF_1389 41 5 (fun h => absurd h.2 (ni rfl))).trans (hc_1)
            have kn_1399 : Hid (c_1394 41 5 = (-1)) := (hF_1396 41 5 (fun h => absurd h.2 (ni rfl))).trans (hid kn_1398)
            refine v_gi (z := 5) (v := (-1)) rfl rfl rfl (by decide) rfl rfl (hid kn_1399) ?_
            refine q_iconst rfl ?_
            refine v_ic_ne_f (t := 12) rfl (by decide) (by decide) ?_
            refine q_iconst rfl ?_
            refine q_goto (t := 13) rfl (by decide) ?_
            refine v_zret rfl rfl (by decide) ?_
            refine bk_inl ?_
            refine v_if_ne_t (t := 115) rfl (by decide) (by decide) ?_
            refine q_aload_n rfl rfl ?_
            have kn_1400 : Hid (c_1394 41 3 = e1) := (hF_1396 41 3 (fun h => absurd h.2 (ni rfl))).trans (hid kn_1391)
            refine v_cv rfl rfl rfl rfl (by decide) ⟨⟨rfl, rfl⟩, by decide, rfl⟩ (Nat.le_of_ble_eq_true rfl) (Nat.le_of_ble_eq_true rfl) (f_159 (e1 := e1) (a9 := (nx F e1 a)) (B := H) (L8 := (ln F e1 (nx F e1 a))) hI_1395 ((hid kn_1400)) ((hz_1397)) (fun j => ((hF_1396 43 j (fun h => absurd h.1 (nn rfl))).trans ((hF_1389 43 j (fun h => absurd h.1 (nn rfl))).trans (hFc 43 j (fun q => q.elim (fun h => absurd h.1 (nn rfl)) (fun q => q.elim (fun h => absurd h.1 (nn rfl)) (fun q => q.elim (fun h => absurd h.1 (nn rfl)) (fun q => q.elim (fun h => absurd h.1 (nn rfl)) (fun q => q.elim (fun h => absurd h.1 (nn rfl)) (fun q => q.elim (fun h => absurd h.1 (nn rfl)) (fun q => q.elim (fun h => absurd h.1 (nn rfl)) (fun q => q.elim (fun h => absurd h (nn rfl)) (fun q => q.elim (fun h => absurd h (nn rfl)) (fun h => absurd h (nn rfl)))))))))))))).trans (hH j)) ((ln_tr hU (by omega) (by omega)).trans (rfl)) (fun c_1401 hI_1402 hF_1403 hz_1404 => ?_))
            refine bk_inl ?_
            refine q_aload_n rfl rfl ?_
            refine q_iload_n rfl rfl ?_
            have hw_1405 : (wv F (nx F e1 a) (ln F e1 (nx F e1 a))) = 153204 := by omega
            rw [hw_1405]
            have kn_1406 : Hid (c_103 1 1 = e1) := (hF_105 1 1 (fun q => q.elim (fun h => absurd h.2 (ni rfl)) (fun q => q.elim (fun h => absurd h.2 (ni rfl)) (fun h => absurd h.2 (ni rfl))))).trans (hid kn_82)
            have kn_1407 : Hid (c_1401 41 3 = e1) := (hF_1403 41 3 (fun h => absurd h.2 (ni rfl))).trans (hid kn_1400)
            have kn_1408 : Hid (c_1387 41 16 = jr) := (hF_1389 41 16 (fun h => absurd h.2 (ni rfl))).trans (hr_jr)
            have kn_1409 : Hid (c_1394 41 16 = jr) := (hF_1396 41 16 (fun h => absurd h.2 (ni rfl))).trans (hid kn_1408)
            have kn_1410 : Hid (c_1401 41 16 = jr) := (hF_1403 41 16 (fun h => absurd h.2 (ni rfl))).trans (hid kn_1409)
            have kn_1411 : Hid (c_1387 41 17 = st) := (hF_1389 41 17 (fun h => absurd h.2 (ni rfl))).trans (hr_st)
            have kn_1412 : Hid (c_1394 41 17 = st) := (hF_1396 41 17 (fun h => absurd h.2 (ni rfl))).trans (hid kn_1411)
            have kn_1413 : Hid (c_1401 41 17 = st) := (hF_1403 41 17 (fun h => absurd h.2 (ni rfl))).trans (hid kn_1412)
            have kn_1414 : Hid (c_1387 41 18 = si) := (hF_1389 41 18 (fun h => absurd h.2 (ni rfl))).trans (hr_si)
            have kn_1415 : Hid (c_1394 41 18 = si) := (hF_1396 41 18 (fun h => absurd h.2 (ni rfl))).trans (hid kn_1414)
            have kn_1416 : Hid (c_1401 41 18 = si) := (hF_1403 41 18 (fun h => absurd h.2 (ni rfl))).trans (hid kn_1415)
            have kn_1417 : Hid (c_27 A 3 = du) := (hF_29 A 3 (fun h => absurd h.1 (np0 hA rfl))).trans (hg_du)
            have kn_1418 : Hid (c_78 A 3 = du) := (hF_80 A 3 (fun h => absurd h.1 (np0 hA rfl))).trans (hid kn_1417)
            have kn_1419 : Hid (c_103 A 3 = du) := (hF_105 A 3 (fun q => q.elim (fun h => absurd h.1 (np0 hA rfl)) (fun q => q.elim (fun h => absurd h.1 (np0 hA rfl)) (fun h => absurd h.1 (np0 hA rfl))))).trans (hid kn_1418)
            have kn_1420 : Hid (c_1387 41 19 = du) := (hF_1389 41 19 (fun h => absurd h.2 (ni rfl))).trans (hr_du)
            have kn_1421 : Hid (c_1394 41 19 = du) := (hF_1396 41 19 (fun h => absurd h.2 (ni rfl))).trans (hid kn_1420)
            have kn_1422 : Hid (c_1401 41 19 = du) := (hF_1403 41 19 (fun h => absurd h.2 (ni rfl))).trans (hid kn_1421)
            have h_1423 : c_103 1 4 = 0 := (hz_109)
            have h_1424 : c_103 1 2 = (ln F e1 (nx F e1 a)) := (hz_108)
            have h_1425 : c_103 1 5 = (-1) := (hz_110)
            have kn_1426 : Hid (c_1401 41 5 = (-1)) := (hF_1403 41 5 (fun h => absurd h.2 (ni rfl))).trans (hid kn_1399)
            have h_1427 : c_1401 41 5 = (-1) := (hid kn_1426)
            have h_1428 : c_1401 41 4 = (ln F e1 (nx F e1 a)) := (hz_1404)
            have h_1429 := ir_41_6 hI2
            have kn_1430 : Hid (c_1387 41 6 = c2 41 6) := hF_1389 41 6 (fun h => absurd h.2 (ni rfl))
            have kn_1431 : Hid (c_1394 41 6 = c2 41 6) := (hF_1396 41 6 (fun h => absurd h.2 (ni rfl))).trans (hid kn_1430)
            have kn_1432 : Hid (c_1401 41 6 = c2 41 6) := (hF_1403 41 6 (fun h => absurd h.2 (ni rfl))).trans (hid kn_1431)
            have h_1433 : c_1401 41 6 = c2 41 6 := (hid kn_1432)
            refine v_cv rfl rfl rfl rfl (by decide) ⟨⟨rfl, rfl⟩, by decide, rfl⟩ (Nat.le_of_ble_eq_true rfl) (Nat.le_of_ble_eq_true rfl) (L_33_3 (m := c_103) (e1 := e1) (jr := jr) (st := st) (si := si) (du := du) (F := F) (H := H) hI_1402 hI_104 hI_1254 hA ((hid kn_1406)) ((hid kn_1407)) ((hid kn_1243)) ((hid kn_1410)) ((hid kn_1247)) ((hid kn_1413)) ((hid kn_1251)) ((hid kn_1416)) ((hid kn_1419)) ((hid kn_1422)) (fun j => ((hF_105 2 j (fun q => q.elim (fun h => absurd h.1 (nn rfl)) (fun q => q.elim (fun h => absurd h.1 (nn rfl)) (fun h => absurd h.1 (nn rfl))))).trans ((hF_80 2 j (fun h => absurd h.1 (nn rfl))).trans ((hF_29 2 j (fun h => absurd h.1 (nn rfl))).trans (hFm 2 j (fun q => q.elim (fun h => absurd h.1 (nn rfl)) (fun q => q.elim (fun h => absurd h.1 (nn rfl)) (fun q => q.elim (fun h => absurd h.1 (nn rfl)) (fun q => q.elim (fun h => absurd h.1 (pn0 hA rfl)) (fun q => q.elim (fun h => absurd h.1 (pn0 hA rfl)) (fun q => q.elim (fun h => absurd h.1 (pn0 hA rfl)) (fun q => q.elim (fun h => absurd h.1 (pn0 hA rfl)) (fun q => q.elim (fun h => absurd h (pn hA rfl rfl)) (fun q => q.elim (fun h => absurd h (pn hA rfl rfl)) (fun q => q.elim (fun h => absurd h (pn hA rfl rfl)) (fun q => q.elim (fun h => absurd h.1 (pn0 hA rfl)) (fun q => q.elim (fun h => absurd h.1 (pn0 hA rfl)) (fun q => q.elim (fun h => absurd h (pn hA rfl rfl)) (fun h => absurd h.1 (pn hA rfl rfl))))))))))))))))))).trans (hF j)) (fun j => ((hF_1403 43 j (fun h => absurd h.1 (nn rfl))).trans ((hF_1396 43 j (fun h => absurd h.1 (nn rfl))).trans ((hF_1389 43 j (fun h => absurd h.1 (nn rfl))).trans (hFc 43 j (fun q => q.elim (fun h => absurd h.1 (nn rfl)) (fun q => q.elim (fun h => absurd h.1 (nn rfl)) (fun q => q.elim (fun h => absurd h.1 (nn rfl)) (fun q => q.elim (fun h => absurd h.1 (nn rfl)) (fun q => q.elim (fun h => absurd h.1 (nn rfl)) (fun q => q.elim (fun h => absurd h.1 (nn rfl)) (fun q => q.elim (fun h => absurd h.1 (nn rfl)) (fun q => q.elim (fun h => absurd h (nn rfl)) (fun q => q.elim (fun h => absurd h (nn rfl)) (fun h => absurd h (nn rfl))))))))))))))).trans (hH j)) hU (by unfold Rt; omega) hG_1256 (fun c_1434 hI_1435 hF_1436 hR_1438 h_1439 h_1440 h_1441 h_1442 => ?_))
            refine bk_inl ?_
            have h_1443 := ir_41_16 hI_1435
            have h_1444 := ir_41_17 hI_1435
            have h_1445 := ir_41_18 hI_1435
            have h_1446 := ir_41_19 hI_1435
            refine q_aload_n rfl rfl ?_
            refine v_bip rfl (by decide) ?_
            have kn_1447 : Hid (c_1253 1 1 = e1) := (hF_1255 1 1 (fun q => q.elim (fun h => absurd h.2 (ni rfl)) (fun q => q.elim (fun h => absurd h.2 (ni rfl)) (fun q => q.elim (fun h => absurd h.2 (ni rfl)) (fun q => q.elim (fun h => absurd h.1 (pn0 hA rfl)) (fun q => q.elim (fun h => absurd h.1 (pn0 hA rfl)) (fun q => q.elim (fun h => absurd h.1 (pn0 hA rfl)) (fun q => q.elim (fun h => absurd h.1 (pn0 hA rfl)) (fun q => q.elim (fun h => absurd h (pn hA rfl rfl)) (fun q => q.elim (fun h => absurd h (pn hA rfl rfl)) (fun h => absurd h (pn hA rfl rfl)))))))))))).trans (hid kn_1406)
            have kn_1448 : Hid (c_1434 41 3 = e1) := (hF_1436 41 3 (fun q => q.elim (fun h => absurd h.2 (ni rfl)) (fun q => q.elim (fun h => absurd h.2 (ni rfl)) (fun q => q.elim (fun h => absurd h.2 (ni rfl)) (fun q => q.elim (fun h => absurd h.2 (ni rfl)) (fun q => q.elim (fun h => absurd h.2 (ni rfl)) (fun q => q.elim (fun h => absurd h.2 (ni rfl)) (fun q => q.elim (fun h => absurd h.2 (ni rfl)) (fun q => q.elim (fun h => absurd h (nn rfl)) (fun q => q.elim (fun h => absurd h (nn rfl)) (fun h => absurd h (nn rfl)))))))))))).trans (hid kn_1407)
            have h_1449 := ir_1_2 hI_1254
            refine v_cv rfl rfl rfl rfl (by decide) ⟨⟨rfl, rfl⟩, by decide, rfl⟩ (Nat.le_of_ble_eq_true rfl) (Nat.le_of_ble_eq_true rfl) (L_11_9 (m := c_1253) (e1 := e1) (a9 := c_1253 1 2) (F := F) (H := H) hI_1435 hI_1254 hI_1259 ((hid kn_1447)) ((hid kn_1448)) (rfl) (fun j => ((hF_1255 2 j (fun q => q.elim (fun h => absurd h.1 (nn rfl)) (fun q => q.elim (fun h => absurd h.1 (nn rfl)) (fun q => q.elim (fun h => absurd h.1 (nn rfl)) (fun q => q.elim (fun h => absurd h.1 (pn0 hA rfl)) (fun q => q.elim (fun h => absurd h.1 (pn0 hA rfl)) (fun q => q.elim (fun h => absurd h.1 (pn0 hA rfl)) (fun q => q.elim (fun h => absurd h.1 (pn0 hA rfl)) (fun q => q.elim (fun h => absurd h (pn hA rfl rfl)) (fun q => q.elim (fun h => absurd h (pn hA rfl rfl)) (fun h => absurd h (pn hA rfl rfl)))))))))))).trans ((hF_105 2 j (fun q => q.elim (fun h => absurd h.1 (nn rfl)) (fun q => q.elim (fun h => absurd h.1 (nn rfl)) (fun h => absurd h.1 (nn rfl))))).trans ((hF_80 2 j (fun h => absurd h.1 (nn rfl))).trans ((hF_29 2 j (fun h => absurd h.1 (nn rfl))).trans (hFm 2 j (fun q => q.elim (fun h => absurd h.1 (nn rfl)) (fun q => q.elim (fun h => absurd h.1 (nn rfl)) (fun q => q.elim (fun h => absurd h.1 (nn rfl)) (fun q => q.elim (fun h => absurd h.1 (pn0 hA rfl)) (fun q => q.elim (fun h => absurd h.1 (pn0 hA rfl)) (fun q => q.elim (fun h => absurd h.1 (pn0 hA rfl)) (fun q => q.elim (fun h => absurd h.1 (pn0 hA rfl)) (fun q => q.elim (fun h => absurd h (pn hA rfl rfl)) (fun q => q.elim (fun h => absurd h (pn hA rfl rfl)) (fun q => q.elim (fun h => absurd h (pn hA rfl rfl)) (fun q => q.elim (fun h => absurd h.1 (pn0 hA rfl)) (fun q => q.elim (fun h => absurd h.1 (pn0 hA rfl)) (fun q => q.elim (fun h => absurd h (pn hA rfl rfl)) (fun h => absurd h.1 (pn hA rfl rfl)))))))))))))))))))).trans (hF j)) (fun j => ((hF_1436 43 j (fun q => q.elim (fun h => absurd h.1 (nn rfl)) (fun q => q.elim (fun h => absurd h.1 (nn rfl)) (fun q => q.elim (fun h => absurd h.1 (nn rfl)) (fun q => q.elim (fun h => absurd h.1 (nn rfl)) (fun q => q.elim (fun h => absurd h.1 (nn rfl)) (fun q => q.elim (fun h => absurd h.1 (nn rfl)) (fun q => q.elim (fun h => absurd h.1 (nn rfl)) (fun q => q.elim (fun h => absurd h (nn rfl)) (fun q => q.elim (fun h => absurd h (nn rfl)) (fun h => absurd h (nn rfl)))))))))))).trans ((hF_1403 43 j (fun h => absurd h.1 (nn rfl))).trans ((hF_1396 43 j (fun h => absurd h.1 (nn rfl))).trans ((hF_1389 43 j (fun h => absurd h.1 (nn rfl))).trans (hFc 43 j (fun q => q.elim (fun h => absurd h.1 (nn rfl)) (fun q => q.elim (fun h => absurd h.1 (nn rfl)) (fun q => q.elim (fun h => absurd h.1 (nn rfl)) (fun q => q.elim (fun h => absurd h.1 (nn rfl)) (fun q => q.elim (fun h => absurd h.1 (nn rfl)) (fun q => q.elim (fun h => absurd h.1 (nn rfl)) (fun q => q.elim (fun h => absurd h.1 (nn rfl)) (fun q => q.elim (fun h => absurd h (nn rfl)) (fun q => q.elim (fun h => absurd h (nn rfl)) (fun h => absurd h (nn rfl)))))))))))))))).trans (hH j)) hU hR_1438 hG_1261 (fun c_1450 hI_1451 hF_1452 hR_1454 h_1455 => ?_))
            refine bk_inl ?_
            refine v_iinc (v := v + 1) rfl rfl (by decide) (by omega) ?_
            refine q_goto (t := 44) rfl (by decide) ?_
            refine q_aload_n rfl rfl ?_
            refine v_cv rfl rfl rfl rfl (by decide) ⟨⟨rfl, rfl⟩, by decide, rfl⟩ (Nat.le_of_ble_eq_true rfl) (Nat.le_of_ble_eq_true rfl) ?_
            refine q_aload_n rfl rfl ?_
            have h_1456 := ir_41_5 hI_1451
            have h_1457 := ir_41_4 hI_1451
            have h_1458 := ir_41_6 hI_1451
            have h_1459 := rt_bad hR_1454 (by omega)
            have hrb_hR_1454 := rt_bad hR_1454 (by omega)
            refine v_gi (z := 5) (v := c_1258 1 5) rfl rfl rfl (by decide) rfl rfl hrb_hR_1454.2.1 ?_
            refine q_iconst rfl ?_
            refine v_ic_ne_t (t := 12) rfl (by decide) (by omega) ?_
            refine q_iconst rfl ?_
            refine v_zret rfl rfl (by decide) ?_
            refine bk_inl ?_
            refine v_if_eq_t (t := 136) rfl (by decide) (by decide) ?_
            refine Wp_ls [(0, .ref 41), (1, vi a1)] (lsub_cons rfl (lsub_cons rfl lsub_nil)) ?_
            have h_1460 : c_1450 41 5 = c_1258 1 5 := hrb_hR_1454.2.1
            have h_1461 : c_1450 41 6 = c_1258 1 4 := hrb_hR_1454.2.2.2
            have kn_1462 : Hid (c_1450 41 16 = c_1434 41 16) := hF_1452 41 16 (fun q => q.elim (fun h => absurd h.2 (ni rfl)) (fun q => q.elim (fun h => absurd h.2 (ni rfl)) (fun h => absurd h.2 (ni rfl))))
            have h_1463 : c_1450 41 16 = c_1434 41 16 := (hid kn_1462)
            have kn_1464 : Hid (c_1450 41 17 = c_1434 41 17) := hF_1452 41 17 (fun q => q.elim (fun h => absurd h.2 (ni rfl)) (fun q => q.elim (fun h => absurd h.2 (ni rfl)) (fun h => absurd h.2 (ni rfl))))
            have h_1465 : c_1450 41 17 = c_1434 41 17 := (hid kn_1464)
            have kn_1466 : Hid (c_1450 41 18 = c_1434 41 18) := hF_1452 41 18 (fun q => q.elim (fun h => absurd h.2 (ni rfl)) (fun q => q.elim (fun h => absurd h.2 (ni rfl)) (fun h => absurd h.2 (ni rfl))))
            have h_1467 : c_1450 41 18 = c_1434 41 18 := (hid kn_1466)
            have kn_1468 : Hid (c_1450 41 19 = c_1434 41 19) := hF_1452 41 19 (fun q => q.elim (fun h => absurd h.2 (ni rfl)) (fun q => q.elim (fun h => absurd h.2 (ni rfl)) (fun h => absurd h.2 (ni rfl))))
            have h_1469 : c_1450 41 19 = c_1434 41 19 := (hid kn_1468)
            exact K c_1450  hI_1451 (fun a j hm => (hF_1452 a j (fun q => q.elim (fun h => hm (Or.inl h)) (fun q => q.elim (fun h => hm (Or.inr (Or.inl h))) (fun h => hm (Or.inr (Or.inr (Or.inl h))))))).trans ((hF_1436 a j (fun q => q.elim (fun h => hm (Or.inl h)) (fun q => q.elim (fun h => hm (Or.inr (Or.inl h))) (fun q => q.elim (fun h => hm (Or.inr (Or.inr (Or.inl h)))) (fun q => q.elim (fun h => hm (Or.inr (Or.inr (Or.inr (Or.inl h))))) (fun q => q.elim (fun h => hm (Or.inr (Or.inr (Or.inr (Or.inr (Or.inl h)))))) (fun q => q.elim (fun h => hm (Or.inr (Or.inr (Or.inr (Or.inr (Or.inr (Or.inl h))))))) (fun q => q.elim (fun h => hm (Or.inr (Or.inr (Or.inr (Or.inr (Or.inr (Or.inr (Or.inl h)))))))) (fun q => q.elim (fun h => hm (Or.inr (Or.inr (Or.inr (Or.inr (Or.inr (Or.inr (Or.inr (Or.inl h))))))))) (fun q => q.elim (fun h => hm (Or.inr (Or.inr (Or.inr (Or.inr (Or.inr (Or.inr (Or.inr (Or.inr (Or.inl h)))))))))) (fun h => hm (Or.inr (Or.inr (Or.inr (Or.inr (Or.inr (Or.inr (Or.inr (Or.inr (Or.inr h)))))))))))))))))))).trans ((hF_1403 a j (fun h => hm (Or.inl h))).trans ((hF_1396 a j (fun h => hm (Or.inl h))).trans ((hF_1389 a j (fun h => hm (Or.inl h))).trans (hFc a j (fun q => q.elim (fun h => hm (Or.inl h)) (fun q => q.elim (fun h => hm (Or.inr (Or.inl h))) (fun q => q.elim (fun h => hm (Or.inr (Or.inr (Or.inl h)))) (fun q => q.elim (fun h => hm (Or.inr (Or.inr (Or.inr (Or.inl h))))) (fun q => q.elim (fun h => hm (Or.inr (Or.inr (Or.inr (Or.inr (Or.inl h)))))) (fun q => q.elim (fun h => hm (Or.inr (Or.inr (Or.inr (Or.inr (Or.inr (Or.inl h))))))) (fun q => q.elim (fun h => hm (Or.inr (Or.inr (Or.inr (Or.inr (Or.inr (Or.inr (Or.inl h)))))))) (fun q => q.elim (fun h => hm (Or.inr (Or.inr (Or.inr (Or.inr (Or.inr (Or.inr (Or.inr (Or.inl h))))))))) (fun q => q.elim (fun h => hm (Or.inr (Or.inr (Or.inr (Or.inr (Or.inr (Or.inr (Or.inr (Or.inr (Or.inl h)))))))))) (fun h => hm (Or.inr (Or.inr (Or.inr (Or.inr (Or.inr (Or.inr (Or.inr (Or.inr (Or.inr h))))))))))))))))))))))))) (by unfold Rt; omega) (by omega)
set_option maxRecDepth 100000 in
set_option maxHeartbeats 4000000 in
theorem L_34 {sc : List Int32} {e eg : Int} {d dh u ug P Q P2 Q2 A : Nat} {c m m9 : ME} {a1 e1 f0 g0 z0 z1 z2 z3 : Int} {F H : Int → Int} {Z : AR → Prop} (hI : Iv u e P2 Q2 c) (hJ : Iv ug eg P Q m) (hJ9 : Iv ug eg P Q m9) (hA : A = 13 ∨ A = 25) (ha1 : (-2147483648) ≤ a1 ∧ a1 ≤ 2147483647) (hq0 : (f0 = 0)) (hq1 : (g0 = (-1))) (hq2 : (z0 = 0)) (hq3 : (z1 = 0)) (hq4 : (z2 = 0)) (hq5 : (z3 = 5)) (hg_e1 : m 1 1 = e1) (hr_e1 : c 41 3 = e1) (hg_f0 : m 1 4 = f0) (hg_g0 : m 1 5 = g0) (hr_z0 : c 41 16 = z0) (hr_z1 : c 41 17 = z1) (hr_z2 : c 41 18 = z2) (hr_z3 : c 41 19 = z3) (hF : ∀ j : Int, m 2 j = F j) (hH : ∀ j : Int, c 43 j = H j) (hU : Ub F H) (hRt : Rt m c) (hG : Wp sc (dh + 30) 34 0 [(0, .ref A), (1, .ref 1)] [] (Wd P Q P P m) 0 0 (fun q => q = (.inl (none), Wd P Q P P m9, 0, 0))) (K : ∀ (c2 : ME), Iv u e P2 Q2 c2 → (∀ (a : Nat) (j : Int), ¬ ((a = 41 ∧ j = 4) ∨ (a = 41 ∧ j = 5) ∨ (a = 41 ∧ j = 6) ∨ (a = 41 ∧ j = 16) ∨ (a = 41 ∧ j = 17) ∨ (a = 41 ∧ j = 18) ∨ (a = 41 ∧ j = 19) ∨ a = 44 ∨ a = 45 ∨ a = 46) → c2 a j = c a j) → (Rt m9 c2) → ((m9 1 4 < 0) ∨ (m9 1 4 > 0) ∨ (m9 A 0 = c2 41 16 ∧ m9 A 1 = c2 41 17 ∧ m9 A 2 = c2 41 18 ∧ m9 A 3 = c2 41 19)) → Wp sc (d + 22) 169 136 [(0, .ref 41), (1, vi a1)] [] (Wd P2 Q2 P2 P2 c2) 0 0 Z) : Wp sc (d + 22) 169 44 [(0, .ref 41), (1, vi a1), (2, vi 0)] [] (Wd P2 Q2 P2 P2 c) 0 0 Z := by
  have hP := iv_P hJ
  have hQ := iv_Q hJ
  have h_1470 := ir_1_1 hJ
  have h_1471 := ir_41_3 hI
  have h_1472 := ir_1_4 hJ
  have h_1473 := ir_1_5 hJ
  have h_1474 := ir_41_16 hI
  have h_1475 := ir_41_17 hI
  have h_1476 := ir_41_18 hI
  have h_1477 := ir_41_19 hI
  refine gh hG ?_
  refine q_aload_n rfl rfl ?_
  refine v_cv rfl rfl rfl (ck_p0 hA) (by omega) ⟨⟨rfl, rfl⟩, by decide, rfl⟩ (Nat.le_of_ble_eq_true rfl) (Nat.le_of_ble_eq_true rfl) (s_30 hJ hA (fun c_1478 hI_1479 hF_1480 h_1481 h_1482 => ?_))
  refine bk_inl ?_
  have h_1483 := ir_p0_0 hI_1479 hA
  have h_1484 := ir_p0_1 hI_1479 hA
  have h_1485 := ir_p0_2 hI_1479 hA
  have h_1486 := ir_p0_3 hI_1479 hA
  have h_1487 := ir_p0_4 hI_1479 hA
  have h_1488 := ir_p0_5 hI_1479 hA
  have h_1489 := ir_p7_4 hI_1479 hA
  refine q_iconst rfl ?_
  refine q_istore_n rfl (by decide) ?_
  have kn_1490 : Hid (c_1478 1 4 = f0) := (hF_1480 1 4 (fun q => q.elim (fun h => absurd h.1 (pn0 hA rfl)) (fun q => q.elim (fun h => absurd h.1 (pn0 hA rfl)) (fun q => q.elim (fun h => absurd h.1 (pn0 hA rfl)) (fun q => q.elim (fun h => absurd h.1 (pn0 hA rfl)) (fun q => q.elim (fun h => absurd h.1 (pn0 hA rfl)) (fun q => q.elim (fun h => absurd h.1 (pn0 hA rfl)) (fun q => q.elim (fun h => absurd h (pn hA rfl rfl)) (fun h => absurd h.1 (pn hA rfl rfl)))))))))).trans (hg_f0)
  refine Wp_ls [(0, .ref A), (1, .ref 1), (2, vi 0)] (lsub_cons rfl (lsub_cons rfl (lsub_cons rfl lsub_nil))) ?_
  refine gh_stop (s_34_l (sc := sc) (d := dh + 18) (c := c_1478) (Z := fun _ => True) hI_1479 hA (fun _ _ _ => trivial) 124 c_1478 0 hI_1479 (fun a j hm => rfl) ⟨by omega, by omega⟩ (by omega)) (fun hG_1491 => ?_)
  refine Wp_ls [(0, .ref 41), (1, vi a1), (2, vi 0)] (lsub_cons rfl (lsub_cons rfl (lsub_cons rfl lsub_nil))) ?_
  have h_1492 := ir_1_2 hJ
  have kn_1493 : Hid (c_1478 1 2 = m 1 2) := hF_1480 1 2 (fun q => q.elim (fun h => absurd h.1 (pn0 hA rfl)) (fun q => q.elim (fun h => absurd h.1 (pn0 hA rfl)) (fun q => q.elim (fun h => absurd h.1 (pn0 hA rfl)) (fun q => q.elim (fun h => absurd h.1 (pn0 hA rfl)) (fun q => q.elim (fun h => absurd h.1 (pn0 hA rfl)) (fun q => q.elim (fun h => absurd h.1 (pn0 hA rfl)) (fun q => q.elim (fun h => absurd h (pn hA rfl rfl)) (fun h => absurd h.1 (pn hA rfl rfl)))))))))
  have h_1494 := ir_41_4 hI
  have h_1495 := ir_41_5 hI
  have h_1496 := ir_41_6 hI
  have h_1497 := rt_ok hRt (by omega)
  have hro_hRt := rt_ok hRt (by omega)
  have kn_1498 : Hid (c_1478 1 5 = g0) := (hF_1480 1 5 (fun q => q.elim (fun h => absurd h.1 (pn0 hA rfl)) (fun q => q.elim (fun h => absurd h.1 (pn0 hA rfl)) (fun q => q.elim (fun h => absurd h.1 (pn0 hA rfl)) (fun q => q.elim (fun h => absurd h.1 (pn0 hA rfl)) (fun q => q.elim (fun h => absurd h.1 (pn0 hA rfl)) (fun q => q.elim (fun h => absurd h.1 (pn0 hA rfl)) (fun q => q.elim (fun h => absurd h (pn hA rfl rfl)) (fun h => absurd h.1 (pn hA rfl rfl)))))))))).trans (hg_g0)
  exact (L_34_l (sc := sc) (d := d) (dh := dh) hI hJ hJ9 hA ha1 hq0 hq1 hq2 hq3 hq4 hq5 hg_e1 hr_e1 hg_f0 hg_g0 hr_z0 hr_z1 hr_z2 hr_z3 hF hH hU hRt K 62) c c_1478 0 (m 1 2) (c_1478 A 0) (c_1478 A 1) (c_1478 A 2) (c_1478 A 3) hI (fun a j hm => rfl) hI_1479 (fun a j hm => hF_1480 a j (fun q => q.elim (fun h => hm (Or.inr (Or.inr (Or.inr (Or.inl h))))) (fun q => q.elim (fun h => hm (Or.inr (Or.inr (Or.inr (Or.inr (Or.inl h)))))) (fun q => q.elim (fun h => hm (Or.inr (Or.inr (Or.inr (Or.inr (Or.inr (Or.inl h))))))) (fun q => q.elim (fun h => hm (Or.inr (Or.inr (Or.inr (Or.inr (Or.inr (Or.inr (Or.inl h)))))))) (fun q => q.elim (fun h => hm (Or.inr (Or.inr (Or.inr (Or.inr (Or.inr (Or.inr (Or.inr (Or.inr (Or.inr (Or.inr (Or.inl h)))))))))))) (fun q => q.elim (fun h => hm (Or.inr (Or.inr (Or.inr (Or.inr (Or.inr (Or.inr (Or.inr (Or.inr (Or.inr (Or.inr (Or.inr (Or.inl h))))))))))))) (fun q => q.elim (fun h => hm (Or.inr (Or.inr (Or.inr (Or.inr (Or.inr (Or.inr (Or.inr (Or.inr (Or.inr (Or.inr (Or.inr (Or.inr (Or.inl h)))))))))))))) (fun h => hm (Or.inr (Or.inr (Or.inr (Or.inr (Or.inr (Or.inr (Or.inr (Or.inr (Or.inr (Or.inr (Or.inr (Or.inr (Or.inr h)))))))))))))))))))))) ⟨by omega, by omega⟩ ⟨by omega, by omega⟩ ⟨by omega, by omega⟩ ⟨by omega, by omega⟩ ⟨by omega, by omega⟩ ⟨by omega, by omega⟩ ((hid kn_1493)) (hro_hRt.2.2.1) (rfl) ((show _ = z0 from (hr_z0)).trans (by omega)) (rfl) ((show _ = z1 from (hr_z1)).trans (by omega)) (rfl) ((show _ = z2 from (hr_z2)).trans (by omega)) (rfl) ((show _ = z3 from (hr_z3)).trans (by omega)) ((show _ = f0 from (hid kn_1490)).trans (by omega)) (hro_hRt.2.1) ((show _ = g0 from (hid kn_1498)).trans (by omega)) hG_1491 (by omega)

set_option maxRecDepth 100000 in
set_option maxHeartbeats 4000000 in
theorem L_84n {sc : List Int32} {d dh P Q P2 Q2 P9 Q9 : Nat} {c m m9 : ME} {a1 yg t9 n0 n1 n2 n3 : Int} {F H : Int → Int} {Z : AR → Prop} (hI : Iv 0 (-1) P2 Q2 c) (hJ : Iv 0 (-1) P Q m) (hJ9 : Iv 0 (-1) P9 Q9 m9) (ha1 : (-2147483648) ≤ a1 ∧ a1 ≤ 2147483647) (hyg : (-2147483648) ≤ yg ∧ yg ≤ 2147483647) (hq0 : (a1 ≥ 0 ∧ a1 ≤ t9 ∧ a1 ≤ 600)) (hg_t9 : m 1 3 = t9) (hr_t9 : c 41 2 = t9) (hg_n0 : m P 0 = n0) (hr_n0 : c 41 20 = n0) (hg_n1 : m P 1 = n1) (hr_n1 : c 41 21 = n1) (hg_n2 : m P 2 = n2) (hr_n2 : c 41 22 = n2) (hg_n3 : m P 3 = n3) (hr_n3 : c 41 23 = n3) (hF : ∀ j : Int, m 2 j = F j) (hH : ∀ j : Int, c 43 j = H j) (hU : Ub F H) (hG : Wp sc (dh + 50) 84 0 [(0, .ref 0), (1, vi a1)] [] (Wd P Q P P m) 0 0 (fun q => q = (.inl (some (vi yg)), Wd P9 Q9 P9 P9 m9, 0, 0))) (K : ∀ (c2 : ME) (y : Int), Iv 0 (-1) P2 Q2 c2 → (∀ (a : Nat) (j : Int), ¬ ((a = 41 ∧ j = 0) ∨ a = 42 ∨ (a = 41 ∧ j = 2) ∨ (a = 41 ∧ j = 3) ∨ (a = 41 ∧ j = 4) ∨ (a = 41 ∧ j = 5) ∨ (a = 41 ∧ j = 6) ∨ (a = 41 ∧ j = 7) ∨ (a = 41 ∧ j = 8) ∨ (a = 41 ∧ j = 16) ∨ (a = 41 ∧ j = 17) ∨ (a = 41 ∧ j = 18) ∨ (a = 41 ∧ j = 19) ∨ a = 44 ∨ a = 45 ∨ a = 46 ∨ (a = 41 ∧ j = 20) ∨ (a = 41 ∧ j = 21) ∨ (a = 41 ∧ j = 22) ∨ (a = 41 ∧ j = 23) ∨ (a = 41 ∧ j = 30) ∨ (a = 41 ∧ j = 35) ∨ (a = 41 ∧ j = 36) ∨ (a = 41 ∧ j = 47) ∨ (a = 41 ∧ j = 48) ∨ (a = 41 ∧ j = 52) ∨ a = 47 ∨ a = 48 ∨ a = 49 ∨ a = 58 ∨ a = 64) → c2 a j = c a j) → (-2147483648) ≤ y ∧ y ≤ 2147483647 → ((y = yg)) → ((c2 41 2 = 0)) → ((c2 41 8 = m9 1 5)) → ((c2 41 0 = 0)) → ((m9 P9 0 = c2 41 20)) → ((m9 P9 1 = c2 41 21)) → ((m9 P9 2 = c2 41 22)) → ((m9 P9 3 = c2 41 23)) → Z (.inl (some (vi y)), Wd P2 Q2 P2 P2 c2, 0, 0)) : Wp sc (d + 40) 169 0 [(0, .ref 41), (1, vi a1)] [] (Wd P2 Q2 P2 P2 c) 0 0 Z := by
  have hP := iv_P hJ
  have hQ := iv_Q hJ
  have h_1 := ir_1_3 hJ
  have h_2 := ir_41_2 hI
  have h_3 := ir_p0_0 hJ hP
  have h_4 := ir_41_20 hI
  have h_5 := ir_p0_1 hJ hP
  have h_6 := ir_41_21 hI
  have h_7 := ir_p0_2 hJ hP
  have h_8 := ir_41_22 hI
  have h_9 := ir_p0_3 hJ hP
  have h_10 := ir_41_23 hI
  have hpq := iv_pq hJ
  unfold Pq at hpq
  refine gh hG ?_
  refine q_aload_n rfl rfl ?_
  refine q_iload_n rfl rfl ?_
  refine v_sip rfl (by decide) ?_
  refine v_cv rfl rfl rfl rfl (by decide) ⟨⟨rfl, rfl⟩, by decide, rfl⟩ (Nat.le_of_ble_eq_true rfl) (Nat.le_of_ble_eq_true rfl) ?_
  refine q_aload_n rfl rfl ?_
  refine q_iload_n rfl rfl ?_
  refine q_iconst rfl ?_
  refine q_iload_n rfl rfl ?_
  refine q_aload_n rfl rfl ?_
  refine v_gr (t := 1) rfl rfl rfl (by decide) rfl ?_
  refine v_gi (z := 3) (v := t9) rfl rfl rfl (by decide) rfl rfl (hg_t9) ?_
  refine v_min_g rfl rfl (by omega) (Nat.le_of_ble_eq_true rfl) (by omega) ?_
  refine q_call rfl rfl rfl rfl ?_
  refine q_iload_n rfl rfl ?_
  refine q_iload_n rfl rfl ?_
  refine v_ic_lt_f (t := 14) rfl (by decide) (by omega) ?_
  refine q_iload_n rfl rfl ?_
  refine q_iload_n rfl rfl ?_
  refine v_ic_gt_f (t := 14) rfl (by decide) (by omega) ?_
  refine q_iconst rfl ?_
  refine q_goto (t := 15) rfl (by decide) ?_
  refine v_zret rfl rfl (by decide) ?_
  refine bk_inl ?_
  refine v_cv rfl rfl rfl rfl (by decide) ⟨⟨rfl, rfl⟩, by decide, rfl⟩ (Nat.le_of_ble_eq_true rfl) (Nat.le_of_ble_eq_true rfl) ?_
  refine q_iload_n rfl rfl ?_
  refine v_if_ne_t (t := 25) rfl (by decide) (by decide) ?_
  refine q_vret rfl rfl ?_
  refine bk_inl ?_
  refine q_aload_n rfl rfl ?_
  refine v_gr (t := 1) rfl rfl rfl (by decide) rfl ?_
  refine q_iload_n rfl rfl ?_
  refine v_cv rfl rfl rfl rfl (by decide) ⟨⟨rfl, rfl⟩, by decide, rfl⟩ (Nat.le_of_ble_eq_true rfl) (Nat.le_of_ble_eq_true rfl) ?_
  refine q_aload_n rfl rfl ?_
  refine q_iload_n rfl rfl ?_
  refine q_aload_n rfl rfl ?_
  refine v_gi (z := 3) (v := t9) rfl rfl rfl (by decide) rfl rfl (hg_t9) ?_
  refine v_minx rfl rfl (by omega) (Nat.le_of_ble_eq_true rfl) ⟨by omega, by omega, by omega, by omega⟩ (fun y_11 hy_11 => ?_)
  refine v_pi (z := 1) rfl rfl rfl (by decide) rfl rfl rfl (by decide) ?_
  refine q_aload_n rfl rfl ?_
  refine q_iconst rfl ?_
  refine v_pi (z := 2) rfl rfl rfl (by decide) rfl rfl rfl (by decide) ?_
  refine q_aload_n rfl rfl ?_
  refine q_iconst rfl ?_
  refine v_pi (z := 3) rfl rfl rfl (by decide) rfl rfl rfl (by decide) ?_
  refine q_aload_n rfl rfl ?_
  refine q_iconst rfl ?_
  refine v_pi (z := 4) rfl rfl rfl (by decide) rfl rfl rfl (by decide) ?_
  refine q_aload_n rfl rfl ?_
  refine q_iconst rfl ?_
  refine v_pi (z := 5) rfl rfl rfl (by decide) rfl rfl rfl (by decide) ?_
  refine q_vret rfl rfl ?_
  refine bk_inl ?_
  refine q_vret rfl rfl ?_
  refine bk_inl ?_
  refine q_aload_n rfl rfl ?_
  refine v_gr (t := Q) rfl rfl rfl (by decide) rfl ?_
  refine q_aload_n rfl rfl ?_
  refine v_gr (t := 1) rfl rfl rfl (by decide) rfl ?_
  have hI_12 := iw_1_1 (v := y_11) hJ ⟨by omega, by omega⟩
  have hI_13 := iw_1_2 (v := 0) hI_12 ⟨by decide, by decide⟩
  have hI_14 := iw_1_3 (v := 0) hI_13 ⟨by decide, by decide⟩
  have hI_15 := iw_1_4 (v := 0) hI_14 ⟨by decide, by decide⟩
  have hI_16 := iw_1_5 (v := (-1)) hI_15 ⟨by decide, by decide⟩
  refine v_cv rfl rfl rfl (ck_p0 hQ) (by omega) ⟨⟨rfl, rfl⟩, by decide, rfl⟩ (Nat.le_of_ble_eq_true rfl) (Nat.le_of_ble_eq_true rfl) (fn_of (s_34 hI_16 hQ (fun c_17 hI_18 hF_19 => ?_)))
  intro hG_20
  refine bk_inl ?_
  refine q_aload_n rfl rfl ?_
  refine v_gr (t := 1) rfl rfl rfl (by decide) rfl ?_
  refine v_cv rfl rfl rfl rfl (by decide) ⟨⟨rfl, rfl⟩, by decide, rfl⟩ (Nat.le_of_ble_eq_true rfl) (Nat.le_of_ble_eq_true rfl) ?_
  refine q_aload_n rfl rfl ?_
  have h_21 := ir_1_4 hI_18
  refine v_gi (z := 4) (v := c_17 1 4) rfl rfl rfl (by decide) rfl rfl rfl ?_
  by_cases h_22 : c_17 1 4 ≠ 0
  · refine v_if_ne_t (t := 11) rfl (by decide) (by omega) ?_
    refine q_iconst rfl ?_
    refine v_zret rfl rfl (by decide) ?_
    refine bk_inl ?_
    refine v_if_eq_t (t := 81) rfl (by decide) (by decide) ?_
    refine q_aload_n rfl rfl ?_
    refine q_aload_n rfl rfl ?_
    refine v_gr (t := P) rfl rfl rfl (by decide) rfl ?_
    have kn_23 : Hid (c_17 P 0 = n0) := (hF_19 P 0 (by omega)).trans ((up_c (np0 hP rfl)).trans ((up_c (np0 hP rfl)).trans ((up_c (np0 hP rfl)).trans ((up_c (np0 hP rfl)).trans ((up_c (np0 hP rfl)).trans (hg_n0))))))
    refine v_gi (z := 0) (v := n0) rfl rfl (ck_p0 hP) (by omega) rfl rfl (hid kn_23) ?_
    refine v_cv rfl rfl rfl rfl (by decide) ⟨⟨rfl, rfl⟩, by decide, rfl⟩ (Nat.le_of_ble_eq_true rfl) (Nat.le_of_ble_eq_true rfl) ?_
    refine q_aload_n rfl rfl ?_
    refine v_gr (t := 1) rfl rfl rfl (by decide) rfl ?_
    refine v_cv rfl rfl rfl rfl (by decide) ⟨⟨rfl, rfl⟩, by decide, rfl⟩ (Nat.le_of_ble_eq_true rfl) (Nat.le_of_ble_eq_true rfl) ?_
    refine q_aload_n rfl rfl ?_
    refine v_gi (z := 4) (v := c_17 1 4) rfl rfl rfl (by decide) rfl rfl rfl ?_
    refine v_if_ne_t (t := 11) rfl (by decide) (by omega) ?_
    refine q_iconst rfl ?_
    refine v_zret rfl rfl (by decide) ?_
    refine bk_inl ?_
    refine v_if_eq_t (t := 14) rfl (by decide) (by decide) ?_
    refine q_aload_n rfl rfl ?_
    refine v_gr (t := 1) rfl rfl rfl (by decide) rfl ?_
    refine v_gi (z := 4) (v := c_17 1 4) rfl rfl rfl (by decide) rfl rfl rfl ?_
    refine v_bip rfl (by decide) ?_
    refine v_isub (v := c_17 1 4 - 10) rfl (by omega) ?_
    refine q_iret rfl rfl ?_
    refine bk_inl ?_
    refine q_iret rfl rfl ?_
    intro hE_24
    have h_25 : yg = c_17 1 4 - 10 := (vi_inj ⟨by omega, by omega⟩ ⟨by omega, by omega⟩ (Option.some.inj (Sum.inl.inj (Prod.mk.inj hE_24).1))).symm
    have hW : Wd P Q P P c_17 = Wd P9 Q9 P9 P9 m9 := (Prod.mk.inj (Prod.mk.inj hE_24).2).1
    obtain ⟨hp9, hq9⟩ := wd_pq hW
    subst hp9
    subst hq9
    have h_26 := ir_1_5 hI_18
    have h_27 := ir_1_5 hJ9
    have h_28 : m9 1 5 = c_17 1 5 := wd_fv (z := 5) 5 rfl hW rfl rfl rfl rfl (by decide) rfl ⟨by omega, by omega⟩ ⟨by omega, by omega⟩
    have h_29 := ir_p0_0 hJ9 hP
    have h_30 : m9 P 0 = n0 := wd_fv (z := 0) 0 rfl hW (ck_A hP) (ck_A hP) rfl rfl (by omega) (hid kn_23) ⟨by omega, by omega⟩ ⟨by omega, by omega⟩
    have kn_31 : Hid (c_17 P 1 = n1) := (hF_19 P 1 (by omega)).trans ((up_c (np0 hP rfl)).trans ((up_c (np0 hP rfl)).trans ((up_c (np0 hP rfl)).trans ((up_c (np0 hP rfl)).trans ((up_c (np0 hP rfl)).trans (hg_n1))))))
    have h_32 := ir_p0_1 hJ9 hP
    have h_33 : m9 P 1 = n1 := wd_fv (z := 1) 1 rfl hW (ck_A hP) (ck_A hP) rfl rfl (by omega) (hid kn_31) ⟨by omega, by omega⟩ ⟨by omega, by omega⟩
    have kn_34 : Hid (c_17 P 2 = n2) := (hF_19 P 2 (by omega)).trans ((up_c (np0 hP rfl)).trans ((up_c (np0 hP rfl)).trans ((up_c (np0 hP rfl)).trans ((up_c (np0 hP rfl)).trans ((up_c (np0 hP rfl)).trans (hg_n2))))))
    have h_35 := ir_p0_2 hJ9 hP
    have h_36 : m9 P 2 = n2 := wd_fv (z := 2) 2 rfl hW (ck_A hP) (ck_A hP) rfl rfl (by omega) (hid kn_34) ⟨by omega, by omega⟩ ⟨by omega, by omega⟩
    have kn_37 : Hid (c_17 P 3 = n3) := (hF_19 P 3 (by omega)).trans ((up_c (np0 hP rfl)).trans ((up_c (np0 hP rfl)).trans ((up_c (np0 hP rfl)).trans ((up_c (np0 hP rfl)).trans ((up_c (np0 hP rfl)).trans (hg_n3))))))
    have h_38 := ir_p0_3 hJ9 hP
    have h_39 : m9 P 3 = n3 := wd_fv (z := 3) 3 rfl hW (ck_A hP) (ck_A hP) rfl rfl (by omega) (hid kn_37) ⟨by omega, by omega⟩ ⟨by omega, by omega⟩
    refine q_aload_n rfl rfl ?_
    refine q_iconst rfl ?_
    refine v_pi (z := 0) rfl rfl rfl (by decide) rfl rfl rfl (by decide) ?_
    refine q_aload_n rfl rfl ?_
    refine q_iload_n rfl rfl ?_
    refine v_if_lt_f (t := 22) rfl (by decide) (by omega) ?_
    refine q_iload_n rfl rfl ?_
    refine q_aload_n rfl rfl ?_
    refine v_gi (z := 2) (v := t9) rfl rfl rfl (by decide) rfl rfl ((up_n (by decide)).trans (hr_t9)) ?_
    refine v_ic_gt_f (t := 22) rfl (by decide) (by omega) ?_
    refine q_iconst rfl ?_
    refine q_goto (t := 23) rfl (by decide) ?_
    refine q_iconst rfl ?_
    refine q_iconst rfl ?_
    refine v_cv rfl rfl rfl rfl (by decide) ⟨⟨rfl, rfl⟩, by decide, rfl⟩ (Nat.le_of_ble_eq_true rfl) (Nat.le_of_ble_eq_true rfl) ?_
    refine q_iload_n rfl rfl ?_
    refine v_if_ne_t (t := 26) rfl (by decide) (by decide) ?_
    refine q_aload_n rfl rfl ?_
    refine v_gi (z := 0) (v := 0) rfl rfl rfl (by decide) rfl rfl (up_e rfl) ?_
    refine v_if_ne_f (t := 37) rfl (by decide) (by decide) ?_
    refine q_iconst rfl ?_
    refine q_goto (t := 38) rfl (by decide) ?_
    refine v_zret rfl rfl (by decide) ?_
    refine bk_inl ?_
    refine v_if_ne_t (t := 33) rfl (by decide) (by decide) ?_
    refine q_aload_n rfl rfl ?_
    refine q_iload_n rfl rfl ?_
    have hI_40 := iw_41_0 (v := 0) hI ⟨by decide, by decide⟩
    refine v_cv rfl rfl rfl rfl (by decide) ⟨⟨rfl, rfl⟩, by decide, rfl⟩ (Nat.le_of_ble_eq_true rfl) (Nat.le_of_ble_eq_true rfl) (s_163 (a1 := a1) hI_40 (show 0 ≤ a1 ∧ a1 ≤ 600 from by omega) (fun c_41 hI_42 hF_43 h_44 => ?_))
    refine bk_inl ?_
    have h_45 := ir_41_2 hI_42
    have h_46 := ir_41_3 hI_42
    have h_47 := ir_41_4 hI_42
    have h_48 := ir_41_5 hI_42
    have h_49 := ir_41_7 hI_42
    refine q_aload_n rfl rfl ?_
    refine v_cv rfl rfl rfl rfl (by decide) ⟨⟨rfl, rfl⟩, by decide, rfl⟩ (Nat.le_of_ble_eq_true rfl) (Nat.le_of_ble_eq_true rfl) (s_147 hI_42 (fun c_50 hI_51 hF_52 h_53 => ?_))
    refine bk_inl ?_
    have h_54 := ir_41_16 hI_51
    have h_55 := ir_41_17 hI_51
    have h_56 := ir_41_18 hI_51
    have h_57 := ir_41_19 hI_51
    refine q_iconst rfl ?_
    refine q_istore_n rfl (by decide) ?_
    refine Wp_ls [(0, .ref 41), (1, vi a1), (2, vi 0)] (lsub_cons rfl (lsub_cons rfl (lsub_cons rfl lsub_nil))) ?_
    have kn_58 : Hid (c_50 41 3 = c_41 41 3) := hF_52 41 3 (fun q => q.elim (fun h => absurd h.2 (ni rfl)) (fun q => q.elim (fun h => absurd h.2 (ni rfl)) (fun q => q.elim (fun h => absurd h.2 (ni rfl)) (fun h => absurd h.2 (ni rfl)))))
    have h_59 : (up (up (up (up (up m 1 1 y_11) 1 2 0) 1 3 0) 1 4 0) 1 5 (-1)) 1 4 = 0 := ((up_n (by decide)).trans (up_e rfl))
    have h_60 : (up (up (up (up (up m 1 1 y_11) 1 2 0) 1 3 0) 1 4 0) 1 5 (-1)) 1 2 = 0 := ((up_n (by decide)).trans ((up_n (by decide)).trans ((up_n (by decide)).trans (up_e rfl))))
    have h_61 : (up (up (up (up (up m 1 1 y_11) 1 2 0) 1 3 0) 1 4 0) 1 5 (-1)) 1 5 = (-1) := (up_e rfl)
    have kn_62 : Hid (c_50 41 5 = c_41 41 5) := hF_52 41 5 (fun q => q.elim (fun h => absurd h.2 (ni rfl)) (fun q => q.elim (fun h => absurd h.2 (ni rfl)) (fun q => q.elim (fun h => absurd h.2 (ni rfl)) (fun h => absurd h.2 (ni rfl)))))
    have h_63 : c_50 41 5 = c_41 41 5 := (hid kn_62)
    have kn_64 : Hid (c_50 41 4 = c_41 41 4) := hF_52 41 4 (fun q => q.elim (fun h => absurd h.2 (ni rfl)) (fun q => q.elim (fun h => absurd h.2 (ni rfl)) (fun q => q.elim (fun h => absurd h.2 (ni rfl)) (fun h => absurd h.2 (ni rfl)))))
    have h_65 : c_50 41 4 = c_41 41 4 := (hid kn_64)
    have h_66 := ir_41_6 hI
    have kn_67 : Hid (c_41 41 6 = c 41 6) := (hF_43 41 6 (fun q => q.elim (fun h => absurd h.2 (ni rfl)) (fun q => q.elim (fun h => absurd h.2 (ni rfl)) (fun q => q.elim (fun h => absurd h.2 (ni rfl)) (fun q => q.elim (fun h => absurd h.2 (ni rfl)) (fun q => q.elim (fun h => absurd h.2 (ni rfl)) (fun h => absurd h.2 (ni rfl)))))))).trans (up_n (by decide))
    have kn_68 : Hid (c_50 41 6 = c 41 6) := (hF_52 41 6 (fun q => q.elim (fun h => absurd h.2 (ni rfl)) (fun q => q.elim (fun h => absurd h.2 (ni rfl)) (fun q => q.elim (fun h => absurd h.2 (ni rfl)) (fun h => absurd h.2 (ni rfl)))))).trans (hid kn_67)
    have h_69 : c_50 41 6 = c 41 6 := (hid kn_68)
    refine L_34 (m := up (up (up (up (up m 1 1 y_11) 1 2 0) 1 3 0) 1 4 0) 1 5 (-1)) (a1 := a1) (e1 := y_11) (f0 := 0) (g0 := (-1)) (z0 := c_50 41 16) (z1 := c_50 41 17) (z2 := c_50 41 18) (z3 := c_50 41 19) (F := F) (H := H) hI_51 hI_16 hI_18 hQ (show (-2147483648) ≤ a1 ∧ a1 ≤ 2147483647 from by omega) (by omega) (by omega) (by omega) (by omega) (by omega) (by omega) (((up_n (by decide)).trans ((up_n (by decide)).trans ((up_n (by decide)).trans ((up_n (by decide)).trans (up_e rfl)))))) (((show _ = c_41 41 3 from (hid kn_58)).trans (by omega))) (((up_n (by decide)).trans (up_e rfl))) ((up_e rfl)) (rfl) (rfl) (rfl) (rfl) (fun j => ((up_c (nn rfl)).trans ((up_c (nn rfl)).trans ((up_c (nn rfl)).trans ((up_c (nn rfl)).trans (up_c (nn rfl)))))).trans (hF j)) (fun j => ((hF_52 43 j (fun q => q.elim (fun h => absurd h.1 (nn rfl)) (fun q => q.elim (fun h => absurd h.1 (nn rfl)) (fun q => q.elim (fun h => absurd h.1 (nn rfl)) (fun h => absurd h.1 (nn rfl)))))).trans ((hF_43 43 j (fun q => q.elim (fun h => absurd h.1 (nn rfl)) (fun q => q.elim (fun h => absurd h.1 (nn rfl)) (fun q => q.elim (fun h => absurd h.1 (nn rfl)) (fun q => q.elim (fun h => absurd h.1 (nn rfl)) (fun q => q.elim (fun h => absurd h.1 (nn rfl)) (fun h => absurd h.1 (nn rfl)))))))).trans (up_c (nn rfl)))).trans (hH j)) hU (by unfold Rt; omega) hG_20 (fun c_70 hI_71 hF_72 hR_74 h_75 => ?_)
    have h_76 := ir_41_16 hI_71
    have h_77 := ir_41_17 hI_71
    have h_78 := ir_41_18 hI_71
    have h_79 := ir_41_19 hI_71
    have h_80 := ir_p0_0 hI_18 hQ
    have h_81 := ir_p0_1 hI_18 hQ
    have h_82 := ir_p0_2 hI_18 hQ
    have h_83 := ir_p0_3 hI_18 hQ
    refine q_aload_n rfl rfl ?_
    refine q_aload_n rfl rfl ?_
    refine v_gi (z := 16) (v := c_70 41 16) rfl rfl rfl (by decide) rfl rfl rfl ?_
    refine v_cv rfl rfl rfl rfl (by decide) ⟨⟨rfl, rfl⟩, by decide, rfl⟩ (Nat.le_of_ble_eq_true rfl) (Nat.le_of_ble_eq_true rfl) ?_
    refine q_aload_n rfl rfl ?_
    refine q_aload_n rfl rfl ?_
    have h_84 := ir_41_5 hI_71
    have h_85 := ir_1_2 hI_18
    have h_86 := ir_41_4 hI_71
    have h_87 := ir_41_6 hI_71
    have h_88 := rt_bad hR_74 (by omega)
    have hrb_hR_74 := rt_bad hR_74 (by omega)
    refine v_gi (z := 5) (v := c_17 1 5) rfl rfl rfl (by decide) rfl rfl hrb_hR_74.2.1 ?_
    refine v_pi (z := 8) rfl rfl rfl (by decide) rfl rfl rfl (by decide) ?_
    refine q_aload_n rfl rfl ?_
    refine v_cv rfl rfl rfl rfl (by decide) ⟨⟨rfl, rfl⟩, by decide, rfl⟩ (Nat.le_of_ble_eq_true rfl) (Nat.le_of_ble_eq_true rfl) ?_
    refine q_aload_n rfl rfl ?_
    refine v_gi (z := 5) (v := c_17 1 5) rfl rfl rfl (by decide) rfl rfl (((up_n (by decide))).trans (hrb_hR_74.2.1)) ?_
    refine q_iconst rfl ?_
    refine v_ic_ne_t (t := 12) rfl (by decide) (by omega) ?_
    refine q_iconst rfl ?_
    refine v_zret rfl rfl (by decide) ?_
    refine bk_inl ?_
    refine v_if_eq_t (t := 19) rfl (by decide) (by decide) ?_
    refine q_aload_n rfl rfl ?_
    refine v_gi (z := 6) (v := c_17 1 4) rfl rfl rfl (by decide) rfl rfl (((up_n (by decide))).trans (hrb_hR_74.2.2.2)) ?_
    refine v_bip rfl (by decide) ?_
    refine v_isub (v := c_17 1 4 - 10) rfl (by omega) ?_
    refine q_iret rfl rfl ?_
    refine bk_inl ?_
    refine q_istore_n rfl (by decide) ?_
    refine q_aload_n rfl rfl ?_
    refine v_gi (z := 5) (v := c_17 1 5) rfl rfl rfl (by decide) rfl rfl (((up_n (by decide))).trans (hrb_hR_74.2.1)) ?_
    refine q_iconst rfl ?_
    refine v_ic_ne_t (t := 157) rfl (by decide) (by omega) ?_
    refine q_iload_n rfl rfl ?_
    refine q_iret rfl rfl ?_
    have hI_89 := iw_41_8 (v := c_17 1 5) hI_71 ⟨by omega, by omega⟩
    have kn_90 : Hid (c_50 41 2 = c_41 41 2) := hF_52 41 2 (fun q => q.elim (fun h => absurd h.2 (ni rfl)) (fun q => q.elim (fun h => absurd h.2 (ni rfl)) (fun q => q.elim (fun h => absurd h.2 (ni rfl)) (fun h => absurd h.2 (ni rfl)))))
    have kn_91 : Hid (c_70 41 2 = c_41 41 2) := (hF_72 41 2 (fun q => q.elim (fun h => absurd h.2 (ni rfl)) (fun q => q.elim (fun h => absurd h.2 (ni rfl)) (fun q => q.elim (fun h => absurd h.2 (ni rfl)) (fun q => q.elim (fun h => absurd h.2 (ni rfl)) (fun q => q.elim (fun h => absurd h.2 (ni rfl)) (fun q => q.elim (fun h => absurd h.2 (ni rfl)) (fun q => q.elim (fun h => absurd h.2 (ni rfl)) (fun q => q.elim (fun h => absurd h (nn rfl)) (fun q => q.elim (fun h => absurd h (nn rfl)) (fun h => absurd h (nn rfl)))))))))))).trans (hid kn_90)
    have h_92 : (up c_70 41 8 (c_17 1 5)) 41 2 = c_41 41 2 := ((up_n (by decide)).trans (hid kn_91))
    have h_93 : (up c_70 41 8 (c_17 1 5)) 41 8 = c_17 1 5 := (up_e rfl)
    have kn_94 : Hid (c_41 41 0 = 0) := (hF_43 41 0 (fun q => q.elim (fun h => absurd h.2 (ni rfl)) (fun q => q.elim (fun h => absurd h.2 (ni rfl)) (fun q => q.elim (fun h => absurd h.2 (ni rfl)) (fun q => q.elim (fun h => absurd h.2 (ni rfl)) (fun q => q.elim (fun h => absurd h.2 (ni rfl)) (fun h => absurd h.2 (ni rfl)))))))).trans (up_e rfl)
    have kn_95 : Hid (c_50 41 0 = 0) := (hF_52 41 0 (fun q => q.elim (fun h => absurd h.2 (ni rfl)) (fun q => q.elim (fun h => absurd h.2 (ni rfl)) (fun q => q.elim (fun h => absurd h.2 (ni rfl)) (fun h => absurd h.2 (ni rfl)))))).trans (hid kn_94)
    have kn_96 : Hid (c_70 41 0 = 0) := (hF_72 41 0 (fun q => q.elim (fun h => absurd h.2 (ni rfl)) (fun q => q.elim (fun h => absurd h.2 (ni rfl)) (fun q => q.elim (fun h => absurd h.2 (ni rfl)) (fun q => q.elim (fun h => absurd h.2 (ni rfl)) (fun q => q.elim (fun h => absurd h.2 (ni rfl)) (fun q => q.elim (fun h => absurd h.2 (ni rfl)) (fun q => q.elim (fun h => absurd h.2 (ni rfl)) (fun q => q.elim (fun h => absurd h (nn rfl)) (fun q => q.elim (fun h => absurd h (nn rfl)) (fun h => absurd h (nn rfl)))))))))))).trans (hid kn_95)
    have h_97 : (up c_70 41 8 (c_17 1 5)) 41 0 = 0 := ((up_n (by decide)).trans (hid kn_96))
    have kn_98 : Hid (c_41 41 20 = n0) := (hF_43 41 20 (fun q => q.elim (fun h => absurd h.2 (ni rfl)) (fun q => q.elim (fun h => absurd h.2 (ni rfl)) (fun q => q.elim (fun h => absurd h.2 (ni rfl)) (fun q => q.elim (fun h => absurd h.2 (ni rfl)) (fun q => q.elim (fun h => absurd h.2 (ni rfl)) (fun h => absurd h.2 (ni rfl)))))))).trans ((up_n (by decide)).trans (hr_n0))
    have kn_99 : Hid (c_50 41 20 = n0) := (hF_52 41 20 (fun q => q.elim (fun h => absurd h.2 (ni rfl)) (fun q => q.elim (fun h => absurd h.2 (ni rfl)) (fun q => q.elim (fun h => absurd h.2 (ni rfl)) (fun h => absurd h.2 (ni rfl)))))).trans (hid kn_98)
    have kn_100 : Hid (c_70 41 20 = n0) := (hF_72 41 20 (fun q => q.elim (fun h => absurd h.2 (ni rfl)) (fun q => q.elim (fun h => absurd h.2 (ni rfl)) (fun q => q.elim (fun h => absurd h.2 (ni rfl)) (fun q => q.elim (fun h => absurd h.2 (ni rfl)) (fun q => q.elim (fun h => absurd h.2 (ni rfl)) (fun q => q.elim (fun h => absurd h.2 (ni rfl)) (fun q => q.elim (fun h => absurd h.2 (ni rfl)) (fun q => q.elim (fun h => absurd h (nn rfl)) (fun q => q.elim (fun h => absurd h (nn rfl)) (fun h => absurd h (nn rfl)))))))))))).trans (hid kn_99)
    have h_101 : (up c_70 41 8 (c_17 1 5)) 41 20 = n0 := ((up_n (by decide)).trans (hid kn_100))
    have kn_102 : Hid (c_41 41 21 = n1) := (hF_43 41 21 (fun q => q.elim (fun h => absurd h.2 (ni rfl)) (fun q => q.elim (fun h => absurd h.2 (ni rfl)) (fun q => q.elim (fun h => absurd h.2 (ni rfl)) (fun q => q.elim (fun h => absurd h.2 (ni rfl)) (fun q => q.elim (fun h => absurd h.2 (ni rfl)) (fun h => absurd h.2 (ni rfl)))))))).trans ((up_n (by decide)).trans (hr_n1))
    have kn_103 : Hid (c_50 41 21 = n1) := (hF_52 41 21 (fun q => q.elim (fun h => absurd h.2 (ni rfl)) (fun q => q.elim (fun h => absurd h.2 (ni rfl)) (fun q => q.elim (fun h => absurd h.2 (ni rfl)) (fun h => absurd h.2 (ni rfl)))))).trans (hid kn_102)
    have kn_104 : Hid (c_70 41 21 = n1) := (hF_72 41 21 (fun q => q.elim (fun h => absurd h.2 (ni rfl)) (fun q => q.elim (fun h => absurd h.2 (ni rfl)) (fun q => q.elim (fun h => absurd h.2 (ni rfl)) (fun q => q.elim (fun h => absurd h.2 (ni rfl)) (fun q => q.elim (fun h => absurd h.2 (ni rfl)) (fun q => q.elim (fun h => absurd h.2 (ni rfl)) (fun q => q.elim (fun h => absurd h.2 (ni rfl)) (fun q => q.elim (fun h => absurd h (nn rfl)) (fun q => q.elim (fun h => absurd h (nn rfl)) (fun h => absurd h (nn rfl)))))))))))).trans (hid kn_103)
    have h_105 : (up c_70 41 8 (c_17 1 5)) 41 21 = n1 := ((up_n (by decide)).trans (hid kn_104))
    have kn_106 : Hid (c_41 41 22 = n2) := (hF_43 41 22 (fun q => q.elim (fun h => absurd h.2 (ni rfl)) (fun q => q.elim (fun h => absurd h.2 (ni rfl)) (fun q => q.elim (fun h => absurd h.2 (ni rfl)) (fun q => q.elim (fun h => absurd h.2 (ni rfl)) (fun q => q.elim (fun h => absurd h.2 (ni rfl)) (fun h => absurd h.2 (ni rfl)))))))).trans ((up_n (by decide)).trans (hr_n2))
    have kn_107 : Hid (c_50 41 22 = n2) := (hF_52 41 22 (fun q => q.elim (fun h => absurd h.2 (ni rfl)) (fun q => q.elim (fun h => absurd h.2 (ni rfl)) (fun q => q.elim (fun h => absurd h.2 (ni rfl)) (fun h => absurd h.2 (ni rfl)))))).trans (hid kn_106)
    have kn_108 : Hid (c_70 41 22 = n2) := (hF_72 41 22 (fun q => q.elim (fun h => absurd h.2 (ni rfl)) (fun q => q.elim (fun h => absurd h.2 (ni rfl)) (fun q => q.elim (fun h => absurd h.2 (ni rfl)) (fun q => q.elim (fun h => absurd h.2 (ni rfl)) (fun q => q.elim (fun h => absurd h.2 (ni rfl)) (fun q => q.elim (fun h => absurd h.2 (ni rfl)) (fun q => q.elim (fun h => absurd h.2 (ni rfl)) (fun q => q.elim (fun h => absurd h (nn rfl)) (fun q => q.elim (fun h => absurd h (nn rfl)) (fun h => absurd h (nn rfl)))))))))))).trans (hid kn_107)
    have h_109 : (up c_70 41 8 (c_17 1 5)) 41 22 = n2 := ((up_n (by decide)).trans (hid kn_108))
    have kn_110 : Hid (c_41 41 23 = n3) := (hF_43 41 23 (fun q => q.elim (fun h => absurd h.2 (ni rfl)) (fun q => q.elim (fun h => absurd h.2 (ni rfl)) (fun q => q.elim (fun h => absurd h.2 (ni rfl)) (fun q => q.elim (fun h => absurd h.2 (ni rfl)) (fun q => q.elim (fun h => absurd h.2 (ni rfl)) (fun h => absurd h.2 (ni rfl)))))))).trans ((up_n (by decide)).trans (hr_n3))
    have kn_111 : Hid (c_50 41 23 = n3) := (hF_52 41 23 (fun q => q.elim (fun h => absurd h.2 (ni rfl)) (fun q => q.elim (fun h => absurd h.2 (ni rfl)) (fun q => q.elim (fun h => absurd h.2 (ni rfl)) (fun h => absurd h.2 (ni rfl)))))).trans (hid kn_110)
    have kn_112 : Hid (c_70 41 23 = n3) := (hF_72 41 23 (fun q => q.elim (fun h => absurd h.2 (ni rfl)) (fun q => q.elim (fun h => absurd h.2 (ni rfl)) (fun q => q.elim (fun h => absurd h.2 (ni rfl)) (fun q => q.elim (fun h => absurd h.2 (ni rfl)) (fun q => q.elim (fun h => absurd h.2 (ni rfl)) (fun q => q.elim (fun h => absurd h.2 (ni rfl)) (fun q => q.elim (fun h => absurd h.2 (ni rfl)) (fun q => q.elim (fun h => absurd h (nn rfl)) (fun q => q.elim (fun h => absurd h (nn rfl)) (fun h => absurd h (nn rfl)))))))))))).trans (hid kn_111)
    have h_113 : (up c_70 41 8 (c_17 1 5)) 41 23 = n3 := ((up_n (by decide)).trans (hid kn_112))
    exact K (up c_70 41 8 (c_17 1 5)) (c_17 1 4 - 10) hI_89 (fun a j hm => (up_b (Decidable.or_iff_not_imp_left.mpr (fun h1 h2 => hm (Or.inr (Or.inr (Or.inr (Or.inr (Or.inr (Or.inr (Or.inr (Or.inr (Or.inl ⟨Decidable.not_not.mp h1, h2⟩)))))))))))).trans ((hF_72 a j (fun q => q.elim (fun h => hm (Or.inr (Or.inr (Or.inr (Or.inr (Or.inl h)))))) (fun q => q.elim (fun h => hm (Or.inr (Or.inr (Or.inr (Or.inr (Or.inr (Or.inl h))))))) (fun q => q.elim (fun h => hm (Or.inr (Or.inr (Or.inr (Or.inr (Or.inr (Or.inr (Or.inl h)))))))) (fun q => q.elim (fun h => hm (Or.inr (Or.inr (Or.inr (Or.inr (Or.inr (Or.inr (Or.inr (Or.inr (Or.inr (Or.inl h))))))))))) (fun q => q.elim (fun h => hm (Or.inr (Or.inr (Or.inr (Or.inr (Or.inr (Or.inr (Or.inr (Or.inr (Or.inr (Or.inr (Or.inl h)))))))))))) (fun q => q.elim (fun h => hm (Or.inr (Or.inr (Or.inr (Or.inr (Or.inr (Or.inr (Or.inr (Or.inr (Or.inr (Or.inr (Or.inr (Or.inl h))))))))))))) (fun q => q.elim (fun h => hm (Or.inr (Or.inr (Or.inr (Or.inr (Or.inr (Or.inr (Or.inr (Or.inr (Or.inr (Or.inr (Or.inr (Or.inr (Or.inl h)))))))))))))) (fun q => q.elim (fun h => hm (Or.inr (Or.inr (Or.inr (Or.inr (Or.inr (Or.inr (Or.inr (Or.inr (Or.inr (Or.inr (Or.inr (Or.inr (Or.inr (Or.inl h))))))))))))))) (fun q => q.elim (fun h => hm (Or.inr (Or.inr (Or.inr (Or.inr (Or.inr (Or.inr (Or.inr (Or.inr (Or.inr (Or.inr (Or.inr (Or.inr (Or.inr (Or.inr (Or.inl h)))))))))))))))) (fun h => hm (Or.inr (Or.inr (Or.inr (Or.inr (Or.inr (Or.inr (Or.inr (Or.inr (Or.inr (Or.inr (Or.inr (Or.inr (Or.inr (Or.inr (Or.inr (Or.inl h))))))))))))))))))))))))))).trans ((hF_52 a j (fun q => q.elim (fun h => hm (Or.inr (Or.inr (Or.inr (Or.inr (Or.inr (Or.inr (Or.inr (Or.inr (Or.inr (Or.inl h))))))))))) (fun q => q.elim (fun h => hm (Or.inr (Or.inr (Or.inr (Or.inr (Or.inr (Or.inr (Or.inr (Or.inr (Or.inr (Or.inr (Or.inl h)))))))))))) (fun q => q.elim (fun h => hm (Or.inr (Or.inr (Or.inr (Or.inr (Or.inr (Or.inr (Or.inr (Or.inr (Or.inr (Or.inr (Or.inr (Or.inl h))))))))))))) (fun h => hm (Or.inr (Or.inr (Or.inr (Or.inr (Or.inr (Or.inr (Or.inr (Or.inr (Or.inr (Or.inr (Or.inr (Or.inr (Or.inl h)))))))))))))))))).trans ((hF_43 a j (fun q => q.elim (fun h => hm (Or.inr (Or.inr (Or.inl h)))) (fun q => q.elim (fun h => hm (Or.inr (Or.inr (Or.inr (Or.inl h))))) (fun q => q.elim (fun h => hm (Or.inr (Or.inr (Or.inr (Or.inr (Or.inl h)))))) (fun q => q.elim (fun h => hm (Or.inr (Or.inr (Or.inr (Or.inr (Or.inr (Or.inl h))))))) (fun q => q.elim (fun h => hm (Or.inr (Or.inr (Or.inr (Or.inr (Or.inr (Or.inr (Or.inr (Or.inl h))))))))) (fun h => hm (Or.inr (Or.inr (Or.inr (Or.inr (Or.inr (Or.inr (Or.inr (Or.inr (Or.inl h)))))))))))))))).trans (up_b (Decidable.or_iff_not_imp_left.mpr (fun h1 h2 => hm (Or.inl ⟨Decidable.not_not.mp h1, h2⟩)))))))) ⟨by omega, by omega⟩ (by omega) (by omega) (by omega) (by omega) (by omega) (by omega) (by omega) (by omega)
  · refine v_if_ne_f (t := 11) rfl (by decide) (by omega) ?_
    refine q_iconst rfl ?_
    refine q_goto (t := 12) rfl (by decide) ?_
    refine v_zret rfl rfl (by decide) ?_
    refine bk_inl ?_
    refine v_if_eq_f (t := 81) rfl (by decide) (by decide) ?_
    refine q_aload_n rfl rfl ?_
    refine v_gr (t := P) rfl rfl rfl (by decide) rfl ?_
    refine q_astore_n rfl (by decide) ?_
    refine q_aload_n rfl rfl ?_
    refine q_aload_n rfl rfl ?_
    refine v_gr (t := Q) rfl rfl rfl (by decide) rfl ?_
    refine v_pr (P' := Q) (Q' := Q) (N' := P) (T' := P) rfl rfl rfl rfl (by decide) (Nat.lt_of_succ_le (Nat.le_of_ble_eq_true rfl)) (fun c => rfl) rfl (by decide) (fun b hb => ck_x0 hb) ?_
    refine q_aload_n rfl rfl ?_
    refine q_aload_n rfl rfl ?_
    refine v_pr (P' := Q) (Q' := P) (N' := P) (T' := P) rfl rfl rfl rfl (by decide) (Nat.lt_of_succ_le (Nat.le_of_ble_eq_true rfl)) (fun c => rfl) rfl (by decide) (fun b hb => ck_x0 hb) ?_
    refine Wp_ls [(0, .ref 0)] (lsub_cons rfl lsub_nil) ?_
    have h_114 := ir_p0_0 hI_18 hQ
    refine s_84u (P := Q) (Q := P) (iv_swap hI_18) (fun c_115 y_116 hI_117 hF_118 hy_119 h_120 h_121 => ?_)
    have h_122 := ir_3_3 hI_117
    have h_123 := ir_3_4 hI_117
    have h_124 := ir_0_11 hI_117
    intro hE_125
    have h_126 : yg = y_116 := (vi_inj ⟨by omega, by omega⟩ ⟨by omega, by omega⟩ (Option.some.inj (Sum.inl.inj (Prod.mk.inj hE_125).1))).symm
    have hW : Wd Q P Q Q c_115 = Wd P9 Q9 P9 P9 m9 := (Prod.mk.inj (Prod.mk.inj hE_125).2).1
    obtain ⟨hp9, hq9⟩ := wd_pq hW
    subst hp9
    subst hq9
    have h_127 := ir_1_5 hI_18
    have kn_128 : Hid (c_115 1 5 = c_17 1 5) := hF_118 1 5 (fun q => q.elim (fun h => absurd h (nn rfl)) (fun q => q.elim (fun h => absurd h (nn rfl)) (fun q => q.elim (fun h => absurd h.1 (nn rfl)) (fun q => q.elim (fun h => absurd h.1 (nn rfl)) (fun h => absurd h.1 (nn rfl))))))
    have h_129 := ir_1_5 hJ9
    have h_130 : m9 1 5 = c_17 1 5 := wd_fv (z := 5) 5 rfl hW rfl rfl rfl rfl (by decide) (hid kn_128) ⟨by omega, by omega⟩ ⟨by omega, by omega⟩
    have kn_131 : Hid (c_115 Q 0 = c_17 Q 0) := hF_118 Q 0 (fun q => q.elim (fun h => absurd h (np0 hQ rfl)) (fun q => q.elim (fun h => absurd h (np0 hQ rfl)) (fun q => q.elim (fun h => absurd h.1 (np0 hQ rfl)) (fun q => q.elim (fun h => absurd h.1 (np0 hQ rfl)) (fun h => absurd h.1 (np0 hQ rfl))))))
    have h_132 := ir_p0_0 hJ9 hQ
    have h_133 : m9 Q 0 = c_17 Q 0 := wd_fv (z := 0) 0 rfl hW (ck_A hQ) (ck_A hQ) rfl rfl (by omega) (hid kn_131) ⟨by omega, by omega⟩ ⟨by omega, by omega⟩
    have h_134 := ir_p0_1 hI_18 hQ
    have kn_135 : Hid (c_115 Q 1 = c_17 Q 1) := hF_118 Q 1 (fun q => q.elim (fun h => absurd h (np0 hQ rfl)) (fun q => q.elim (fun h => absurd h (np0 hQ rfl)) (fun q => q.elim (fun h => absurd h.1 (np0 hQ rfl)) (fun q => q.elim (fun h => absurd h.1 (np0 hQ rfl)) (fun h => absurd h.1 (np0 hQ rfl))))))
    have h_136 := ir_p0_1 hJ9 hQ
    have h_137 : m9 Q 1 = c_17 Q 1 := wd_fv (z := 1) 1 rfl hW (ck_A hQ) (ck_A hQ) rfl rfl (by omega) (hid kn_135) ⟨by omega, by omega⟩ ⟨by omega, by omega⟩
    have h_138 := ir_p0_2 hI_18 hQ
    have kn_139 : Hid (c_115 Q 2 = c_17 Q 2) := hF_118 Q 2 (fun q => q.elim (fun h => absurd h (np0 hQ rfl)) (fun q => q.elim (fun h => absurd h (np0 hQ rfl)) (fun q => q.elim (fun h => absurd h.1 (np0 hQ rfl)) (fun q => q.elim (fun h => absurd h.1 (np0 hQ rfl)) (fun h => absurd h.1 (np0 hQ rfl))))))
    have h_140 := ir_p0_2 hJ9 hQ
    have h_141 : m9 Q 2 = c_17 Q 2 := wd_fv (z := 2) 2 rfl hW (ck_A hQ) (ck_A hQ) rfl rfl (by omega) (hid kn_139) ⟨by omega, by omega⟩ ⟨by omega, by omega⟩
    have h_142 := ir_p0_3 hI_18 hQ
    have kn_143 : Hid (c_115 Q 3 = c_17 Q 3) := hF_118 Q 3 (fun q => q.elim (fun h => absurd h (np0 hQ rfl)) (fun q => q.elim (fun h => absurd h (np0 hQ rfl)) (fun q => q.elim (fun h => absurd h.1 (np0 hQ rfl)) (fun q => q.elim (fun h => absurd h.1 (np0 hQ rfl)) (fun h => absurd h.1 (np0 hQ rfl))))))
    have h_144 := ir_p0_3 hJ9 hQ
    have h_145 : m9 Q 3 = c_17 Q 3 := wd_fv (z := 3) 3 rfl hW (ck_A hQ) (ck_A hQ) rfl rfl (by omega) (hid kn_143) ⟨by omega, by omega⟩ ⟨by omega, by omega⟩
    refine q_aload_n rfl rfl ?_
    refine q_iconst rfl ?_
    refine v_pi (z := 0) rfl rfl rfl (by decide) rfl rfl rfl (by decide) ?_
    refine q_aload_n rfl rfl ?_
    refine q_iload_n rfl rfl ?_
    refine v_if_lt_f (t := 22) rfl (by decide) (by omega) ?_
    refine q_iload_n rfl rfl ?_
    refine q_aload_n rfl rfl ?_
    refine v_gi (z := 2) (v := t9) rfl rfl rfl (by decide) rfl rfl ((up_n (by decide)).trans (hr_t9)) ?_
    refine v_ic_gt_f (t := 22) rfl (by decide) (by omega) ?_
    refine q_iconst rfl ?_
    refine q_goto (t := 23) rfl (by decide) ?_
    refine q_iconst rfl ?_
    refine q_iconst rfl ?_
    refine v_cv rfl rfl rfl rfl (by decide) ⟨⟨rfl, rfl⟩, by decide, rfl⟩ (Nat.le_of_ble_eq_true rfl) (Nat.le_of_ble_eq_true rfl) ?_
    refine q_iload_n rfl rfl ?_
    refine v_if_ne_t (t := 26) rfl (by decide) (by decide) ?_
    refine q_aload_n rfl rfl ?_
    refine v_gi (z := 0) (v := 0) rfl rfl rfl (by decide) rfl rfl (up_e rfl) ?_
    refine v_if_ne_f (t := 37) rfl (by decide) (by decide) ?_
    refine q_iconst rfl ?_
    refine q_goto (t := 38) rfl (by decide) ?_
    refine v_zret rfl rfl (by decide) ?_
    refine bk_inl ?_
    refine v_if_ne_t (t := 33) rfl (by decide) (by decide) ?_
    refine q_aload_n rfl rfl ?_
    refine q_iload_n rfl rfl ?_
    have hI_146 := iw_41_0 (v := 0) hI ⟨by decide, by decide⟩
    refine v_cv rfl rfl rfl rfl (by decide) ⟨⟨rfl, rfl⟩, by decide, rfl⟩ (Nat.le_of_ble_eq_true rfl) (Nat.le_of_ble_eq_true rfl) (s_163 (a1 := a1) hI_146 (show 0 ≤ a1 ∧ a1 ≤ 600 from by omega) (fun c_147 hI_148 hF_149 h_150 => ?_))
    refine bk_inl ?_
    have h_151 := ir_41_2 hI_148
    have h_152 := ir_41_3 hI_148
    have h_153 := ir_41_4 hI_148
    have h_154 := ir_41_5 hI_148
    have h_155 := ir_41_7 hI_148
    refine q_aload_n rfl rfl ?_
    refine v_cv rfl rfl rfl rfl (by decide) ⟨⟨rfl, rfl⟩, by decide, rfl⟩ (Nat.le_of_ble_eq_true rfl) (Nat.le_of_ble_eq_true rfl) (s_147 hI_148 (fun c_156 hI_157 hF_158 h_159 => ?_))
    refine bk_inl ?_
    have h_160 := ir_41_16 hI_157
    have h_161 := ir_41_17 hI_157
    have h_162 := ir_41_18 hI_157
    have h_163 := ir_41_19 hI_157
    refine q_iconst rfl ?_
    refine q_istore_n rfl (by decide) ?_
    refine Wp_ls [(0, .ref 41), (1, vi a1), (2, vi 0)] (lsub_cons rfl (lsub_cons rfl (lsub_cons rfl lsub_nil))) ?_
    have kn_164 : Hid (c_156 41 3 = c_147 41 3) := hF_158 41 3 (fun q => q.elim (fun h => absurd h.2 (ni rfl)) (fun q => q.elim (fun h => absurd h.2 (ni rfl)) (fun q => q.elim (fun h => absurd h.2 (ni rfl)) (fun h => absurd h.2 (ni rfl)))))
    have h_165 : (up (up (up (up (up m 1 1 y_11) 1 2 0) 1 3 0) 1 4 0) 1 5 (-1)) 1 4 = 0 := ((up_n (by decide)).trans (up_e rfl))
    have h_166 : (up (up (up (up (up m 1 1 y_11) 1 2 0) 1 3 0) 1 4 0) 1 5 (-1)) 1 2 = 0 := ((up_n (by decide)).trans ((up_n (by decide)).trans ((up_n (by decide)).trans (up_e rfl))))
    have h_167 : (up (up (up (up (up m 1 1 y_11) 1 2 0) 1 3 0) 1 4 0) 1 5 (-1)) 1 5 = (-1) := (up_e rfl)
    have kn_168 : Hid (c_156 41 5 = c_147 41 5) := hF_158 41 5 (fun q => q.elim (fun h => absurd h.2 (ni rfl)) (fun q => q.elim (fun h => absurd h.2 (ni rfl)) (fun q => q.elim (fun h => absurd h.2 (ni rfl)) (fun h => absurd h.2 (ni rfl)))))
    have h_169 : c_156 41 5 = c_147 41 5 := (hid kn_168)
    have kn_170 : Hid (c_156 41 4 = c_147 41 4) := hF_158 41 4 (fun q => q.elim (fun h => absurd h.2 (ni rfl)) (fun q => q.elim (fun h => absurd h.2 (ni rfl)) (fun q => q.elim (fun h => absurd h.2 (ni rfl)) (fun h => absurd h.2 (ni rfl)))))
    have h_171 : c_156 41 4 = c_147 41 4 := (hid kn_170)
    have h_172 := ir_41_6 hI
    have kn_173 : Hid (c_147 41 6 = c 41 6) := (hF_149 41 6 (fun q => q.elim (fun h => absurd h.2 (ni rfl)) (fun q => q.elim (fun h => absurd h.2 (ni rfl)) (fun q => q.elim (fun h => absurd h.2 (ni rfl)) (fun q => q.elim (fun h => absurd h.2 (ni rfl)) (fun q => q.elim (fun h => absurd h.2 (ni rfl)) (fun h => absurd h.2 (ni rfl)))))))).trans (up_n (by decide))
    have kn_174 : Hid (c_156 41 6 = c 41 6) := (hF_158 41 6 (fun q => q.elim (fun h => absurd h.2 (ni rfl)) (fun q => q.elim (fun h => absurd h.2 (ni rfl)) (fun q => q.elim (fun h => absurd h.2 (ni rfl)) (fun h => absurd h.2 (ni rfl)))))).trans (hid kn_173)
    have h_175 : c_156 41 6 = c 41 6 := (hid kn_174)
    refine L_34 (m := up (up (up (up (up m 1 1 y_11) 1 2 0) 1 3 0) 1 4 0) 1 5 (-1)) (a1 := a1) (e1 := y_11) (f0 := 0) (g0 := (-1)) (z0 := c_156 41 16) (z1 := c_156 41 17) (z2 := c_156 41 18) (z3 := c_156 41 19) (F := F) (H := H) hI_157 hI_16 hI_18 hQ (show (-2147483648) ≤ a1 ∧ a1 ≤ 2147483647 from by omega) (by omega) (by omega) (by omega) (by omega) (by omega) (by omega) (((up_n (by decide)).trans ((up_n (by decide)).trans ((up_n (by decide)).trans ((up_n (by decide)).trans (up_e rfl)))))) (((show _ = c_147 41 3 from (hid kn_164)).trans (by omega))) (((up_n (by decide)).trans (up_e rfl))) ((up_e rfl)) (rfl) (rfl) (rfl) (rfl) (fun j => ((up_c (nn rfl)).trans ((up_c (nn rfl)).trans ((up_c (nn rfl)).trans ((up_c (nn rfl)).trans (up_c (nn rfl)))))).trans (hF j)) (fun j => ((hF_158 43 j (fun q => q.elim (fun h => absurd h.1 (nn rfl)) (fun q => q.elim (fun h => absurd h.1 (nn rfl)) (fun q => q.elim (fun h => absurd h.1 (nn rfl)) (fun h => absurd h.1 (nn rfl)))))).trans ((hF_149 43 j (fun q => q.elim (fun h => absurd h.1 (nn rfl)) (fun q => q.elim (fun h => absurd h.1 (nn rfl)) (fun q => q.elim (fun h => absurd h.1 (nn rfl)) (fun q => q.elim (fun h => absurd h.1 (nn rfl)) (fun q => q.elim (fun h => absurd h.1 (nn rfl)) (fun h => absurd h.1 (nn rfl)))))))).trans (up_c (nn rfl)))).trans (hH j)) hU (by unfold Rt; omega) hG_20 (fun c_176 hI_177 hF_178 hR_180 h_181 => ?_)
    have h_182 := ir_41_16 hI_177
    have h_183 := ir_41_17 hI_177
    have h_184 := ir_41_18 hI_177
    have h_185 := ir_41_19 hI_177
    refine q_aload_n rfl rfl ?_
    refine q_aload_n rfl rfl ?_
    refine v_gi (z := 16) (v := c_176 41 16) rfl rfl rfl (by decide) rfl rfl rfl ?_
    refine v_cv rfl rfl rfl rfl (by decide) ⟨⟨rfl, rfl⟩, by decide, rfl⟩ (Nat.le_of_ble_eq_true rfl) (Nat.le_of_ble_eq_true rfl) ?_
    refine q_aload_n rfl rfl ?_
    refine q_aload_n rfl rfl ?_
    have h_186 := ir_41_5 hI_177
    have h_187 := ir_1_2 hI_18
    have h_188 := ir_41_4 hI_177
    have h_189 := ir_41_6 hI_177
    have h_190 := rt_ok hR_180 (by omega)
    have hro_hR_180 := rt_ok hR_180 (by omega)
    refine v_gi (z := 5) (v := (-1)) rfl rfl rfl (by decide) rfl rfl hro_hR_180.2.1 ?_
    refine v_pi (z := 8) rfl rfl rfl (by decide) rfl rfl rfl (by decide) ?_
    refine q_aload_n rfl rfl ?_
    refine v_cv rfl rfl rfl rfl (by decide) ⟨⟨rfl, rfl⟩, by decide, rfl⟩ (Nat.le_of_ble_eq_true rfl) (Nat.le_of_ble_eq_true rfl) ?_
    refine q_aload_n rfl rfl ?_
    refine v_gi (z := 5) (v := (-1)) rfl rfl rfl (by decide) rfl rfl (((up_n (by decide))).trans (hro_hR_180.2.1)) ?_
    refine q_iconst rfl ?_
    refine v_ic_ne_f (t := 12) rfl (by decide) (by decide) ?_
    refine q_iconst rfl ?_
    refine q_goto (t := 13) rfl (by decide) ?_
    refine v_zret rfl rfl (by decide) ?_
    refine bk_inl ?_
    refine v_if_eq_f (t := 19) rfl (by decide) (by decide) ?_
    refine q_iload_n rfl rfl ?_
    refine q_goto (t := 26) rfl (by decide) ?_
    refine q_iret rfl rfl ?_
    refine bk_inl ?_
    refine q_istore_n rfl (by decide) ?_
    refine q_aload_n rfl rfl ?_
    refine v_gi (z := 5) (v := (-1)) rfl rfl rfl (by decide) rfl rfl (((up_n (by decide))).trans (hro_hR_180.2.1)) ?_
    refine q_iconst rfl ?_
    refine v_ic_ne_f (t := 157) rfl (by decide) (by decide) ?_
    refine q_aload_n rfl rfl ?_
    have hI_191 := iw_41_8 (v := (-1)) hI_177 ⟨by decide, by decide⟩
    have h_192 : (up c_176 41 8 (-1)) 41 16 = c_176 41 16 := (up_n (by decide))
    have h_193 : (up c_176 41 8 (-1)) 41 17 = c_176 41 17 := (up_n (by decide))
    have h_194 : (up c_176 41 8 (-1)) 41 18 = c_176 41 18 := (up_n (by decide))
    have h_195 : (up c_176 41 8 (-1)) 41 19 = c_176 41 19 := (up_n (by decide))
    refine v_cv rfl rfl rfl rfl (by decide) ⟨⟨rfl, rfl⟩, by decide, rfl⟩ (Nat.le_of_ble_eq_true rfl) (Nat.le_of_ble_eq_true rfl) (s_149 (iv_open hI_191) (fun c_196 hI_197 hF_198 h_199 => ?_))
    refine bk_inl ?_
    have h_200 := ir_41_20 hI_197
    have h_201 := ir_41_21 hI_197
    have h_202 := ir_41_22 hI_197
    have h_203 := ir_41_23 hI_197
    have h_204 := ir_41_30 hI_197
    have h_205 := ir_41_35 hI_197
    have h_206 := ir_41_36 hI_197
    have h_207 := ir_41_47 hI_197
    have h_208 := ir_41_48 hI_197
    have h_209 := ir_41_52 hI_197
    refine q_iload_n rfl rfl ?_
    refine q_iret rfl rfl ?_
    have kn_210 : Hid (c_156 41 2 = c_147 41 2) := hF_158 41 2 (fun q => q.elim (fun h => absurd h.2 (ni rfl)) (fun q => q.elim (fun h => absurd h.2 (ni rfl)) (fun q => q.elim (fun h => absurd h.2 (ni rfl)) (fun h => absurd h.2 (ni rfl)))))
    have kn_211 : Hid (c_176 41 2 = c_147 41 2) := (hF_178 41 2 (fun q => q.elim (fun h => absurd h.2 (ni rfl)) (fun q => q.elim (fun h => absurd h.2 (ni rfl)) (fun q => q.elim (fun h => absurd h.2 (ni rfl)) (fun q => q.elim (fun h => absurd h.2 (ni rfl)) (fun q => q.elim (fun h => absurd h.2 (ni rfl)) (fun q => q.elim (fun h => absurd h.2 (ni rfl)) (fun q => q.elim (fun h => absurd h.2 (ni rfl)) (fun q => q.elim (fun h => absurd h (nn rfl)) (fun q => q.elim (fun h => absurd h (nn rfl)) (fun h => absurd h (nn rfl)))))))))))).trans (hid kn_210)
    have kn_212 : Hid (c_196 41 2 = c_147 41 2) := (hF_198 41 2 (fun q => q.elim (fun h => absurd h.2 (ni rfl)) (fun q => q.elim (fun h => absurd h.2 (ni rfl)) (fun q => q.elim (fun h => absurd h.2 (ni rfl)) (fun q => q.elim (fun h => absurd h.2 (ni rfl)) (fun q => q.elim (fun h => absurd h.2 (ni rfl)) (fun q => q.elim (fun h => absurd h.2 (ni rfl)) (fun q => q.elim (fun h => absurd h.2 (ni rfl)) (fun q => q.elim (fun h => absurd h.2 (ni rfl)) (fun q => q.elim (fun h => absurd h.2 (ni rfl)) (fun q => q.elim (fun h => absurd h.2 (ni rfl)) (fun q => q.elim (fun h => absurd h (nn rfl)) (fun q => q.elim (fun h => absurd h (nn rfl)) (fun q => q.elim (fun h => absurd h (nn rfl)) (fun q => q.elim (fun h => absurd h (nn rfl)) (fun h => absurd h (nn rfl))))))))))))))))).trans ((up_n (by decide)).trans (hid kn_211))
    have h_213 : c_196 41 2 = c_147 41 2 := (hid kn_212)
    have kn_214 : Hid (c_196 41 8 = (-1)) := (hF_198 41 8 (fun q => q.elim (fun h => absurd h.2 (ni rfl)) (fun q => q.elim (fun h => absurd h.2 (ni rfl)) (fun q => q.elim (fun h => absurd h.2 (ni rfl)) (fun q => q.elim (fun h => absurd h.2 (ni rfl)) (fun q => q.elim (fun h => absurd h.2 (ni rfl)) (fun q => q.elim (fun h => absurd h.2 (ni rfl)) (fun q => q.elim (fun h => absurd h.2 (ni rfl)) (fun q => q.elim (fun h => absurd h.2 (ni rfl)) (fun q => q.elim (fun h => absurd h.2 (ni rfl)) (fun q => q.elim (fun h => absurd h.2 (ni rfl)) (fun q => q.elim (fun h => absurd h (nn rfl)) (fun q => q.elim (fun h => absurd h (nn rfl)) (fun q => q.elim (fun h => absurd h (nn rfl)) (fun q => q.elim (fun h => absurd h (nn rfl)) (fun h => absurd h (nn rfl))))))))))))))))).trans (up_e rfl)
    have h_215 : c_196 41 8 = (-1) := (hid kn_214)
    have kn_216 : Hid (c_147 41 0 = 0) := (hF_149 41 0 (fun q => q.elim (fun h => absurd h.2 (ni rfl)) (fun q => q.elim (fun h => absurd h.2 (ni rfl)) (fun q => q.elim (fun h => absurd h.2 (ni rfl)) (fun q => q.elim (fun h => absurd h.2 (ni rfl)) (fun q => q.elim (fun h => absurd h.2 (ni rfl)) (fun h => absurd h.2 (ni rfl)))))))).trans (up_e rfl)
    have kn_217 : Hid (c_156 41 0 = 0) := (hF_158 41 0 (fun q => q.elim (fun h => absurd h.2 (ni rfl)) (fun q => q.elim (fun h => absurd h.2 (ni rfl)) (fun q => q.elim (fun h => absurd h.2 (ni rfl)) (fun h => absurd h.2 (ni rfl)))))).trans (hid kn_216)
    have kn_218 : Hid (c_176 41 0 = 0) := (hF_178 41 0 (fun q => q.elim (fun h => absurd h.2 (ni rfl)) (fun q => q.elim (fun h => absurd h.2 (ni rfl)) (fun q => q.elim (fun h => absurd h.2 (ni rfl)) (fun q => q.elim (fun h => absurd h.2 (ni rfl)) (fun q => q.elim (fun h => absurd h.2 (ni rfl)) (fun q => q.elim (fun h => absurd h.2 (ni rfl)) (fun q => q.elim (fun h => absurd h.2 (ni rfl)) (fun q => q.elim (fun h => absurd h (nn rfl)) (fun q => q.elim (fun h => absurd h (nn rfl)) (fun h => absurd h (nn rfl)))))))))))).trans (hid kn_217)
    have kn_219 : Hid (c_196 41 0 = 0) := (hF_198 41 0 (fun q => q.elim (fun h => absurd h.2 (ni rfl)) (fun q => q.elim (fun h => absurd h.2 (ni rfl)) (fun q => q.elim (fun h => absurd h.2 (ni rfl)) (fun q => q.elim (fun h => absurd h.2 (ni rfl)) (fun q => q.elim (fun h => absurd h.2 (ni rfl)) (fun q => q.elim (fun h => absurd h.2 (ni rfl)) (fun q => q.elim (fun h => absurd h.2 (ni rfl)) (fun q => q.elim (fun h => absurd h.2 (ni rfl)) (fun q => q.elim (fun h => absurd h.2 (ni rfl)) (fun q => q.elim (fun h => absurd h.2 (ni rfl)) (fun q => q.elim (fun h => absurd h (nn rfl)) (fun q => q.elim (fun h => absurd h (nn rfl)) (fun q => q.elim (fun h => absurd h (nn rfl)) (fun q => q.elim (fun h => absurd h (nn rfl)) (fun h => absurd h (nn rfl))))))))))))))))).trans ((up_n (by decide)).trans (hid kn_218))
    have h_220 : c_196 41 0 = 0 := (hid kn_219)
    exact K c_196 (c_176 41 16) hI_197 (fun a j hm => (hF_198 a j (fun q => q.elim (fun h => hm (Or.inr (Or.inr (Or.inr (Or.inr (Or.inr (Or.inr (Or.inr (Or.inr (Or.inr (Or.inr (Or.inr (Or.inr (Or.inr (Or.inr (Or.inr (Or.inr (Or.inl h)))))))))))))))))) (fun q => q.elim (fun h => hm (Or.inr (Or.inr (Or.inr (Or.inr (Or.inr (Or.inr (Or.inr (Or.inr (Or.inr (Or.inr (Or.inr (Or.inr (Or.inr (Or.inr (Or.inr (Or.inr (Or.inr (Or.inl h))))))))))))))))))) (fun q => q.elim (fun h => hm (Or.inr (Or.inr (Or.inr (Or.inr (Or.inr (Or.inr (Or.inr (Or.inr (Or.inr (Or.inr (Or.inr (Or.inr (Or.inr (Or.inr (Or.inr (Or.inr (Or.inr (Or.inr (Or.inl h)))))))))))))))))))) (fun q => q.elim (fun h => hm (Or.inr (Or.inr (Or.inr (Or.inr (Or.inr (Or.inr (Or.inr (Or.inr (Or.inr (Or.inr (Or.inr (Or.inr (Or.inr (Or.inr (Or.inr (Or.inr (Or.inr (Or.inr (Or.inr (Or.inl h))))))))))))))))))))) (fun q => q.elim (fun h => hm (Or.inr (Or.inr (Or.inr (Or.inr (Or.inr (Or.inr (Or.inr (Or.inr (Or.inr (Or.inr (Or.inr (Or.inr (Or.inr (Or.inr (Or.inr (Or.inr (Or.inr (Or.inr (Or.inr (Or.inr (Or.inl h)))))))))))))))))))))) (fun q => q.elim (fun h => hm (Or.inr (Or.inr (Or.inr (Or.inr (Or.inr (Or.inr (Or.inr (Or.inr (Or.inr (Or.inr (Or.inr (Or.inr (Or.inr (Or.inr (Or.inr (Or.inr (Or.inr (Or.inr (Or.inr (Or.inr (Or.inr (Or.inl h))))))))))))))))))))))) (fun q => q.elim (fun h => hm (Or.inr (Or.inr (Or.inr (Or.inr (Or.inr (Or.inr (Or.inr (Or.inr (Or.inr (Or.inr (Or.inr (Or.inr (Or.inr (Or.inr (Or.inr (Or.inr (Or.inr (Or.inr (Or.inr (Or.inr (Or.inr (Or.inr (Or.inl h)))))))))))))))))))))))) (fun q => q.elim (fun h => hm (Or.inr (Or.inr (Or.inr (Or.inr (Or.inr (Or.inr (Or.inr (Or.inr (Or.inr (Or.inr (Or.inr (Or.inr (Or.inr (Or.inr (Or.inr (Or.inr (Or.inr (Or.inr (Or.inr (Or.inr (Or.inr (Or.inr (Or.inr (Or.inl h))))))))))))))))))))))))) (fun q => q.elim (fun h => hm (Or.inr (Or.inr (Or.inr (Or.inr (Or.inr (Or.inr (Or.inr (Or.inr (Or.inr (Or.inr (Or.inr (Or.inr (Or.inr (Or.inr (Or.inr (Or.inr (Or.inr (Or.inr (Or.inr (Or.inr (Or.inr (Or.inr (Or.inr (Or.inr (Or.inl h)))))))))))))))))))))))))) (fun q => q.elim (fun h => hm (Or.inr (Or.inr (Or.inr (Or.inr (Or.inr (Or.inr (Or.inr (Or.inr (Or.inr (Or.inr (Or.inr (Or.inr (Or.inr (Or.inr (Or.inr (Or.inr (Or.inr (Or.inr (Or.inr (Or.inr (Or.inr (Or.inr (Or.inr (Or.inr (Or.inr (Or.inl h))))))))))))))))))))))))))) (fun q => q.elim (fun h => hm (Or.inr (Or.inr (Or.inr (Or.inr (Or.inr (Or.inr (Or.inr (Or.inr (Or.inr (Or.inr (Or.inr (Or.inr (Or.inr (Or.inr (Or.inr (Or.inr (Or.inr (Or.inr (Or.inr (Or.inr (Or.inr (Or.inr (Or.inr (Or.inr (Or.inr (Or.inr (Or.inl h)))))))))))))))))))))))))))) (fun q => q.elim (fun h => hm (Or.inr (Or.inr (Or.inr (Or.inr (Or.inr (Or.inr (Or.inr (Or.inr (Or.inr (Or.inr (Or.inr (Or.inr (Or.inr (Or.inr (Or.inr (Or.inr (Or.inr (Or.inr (Or.inr (Or.inr (Or.inr (Or.inr (Or.inr (Or.inr (Or.inr (Or.inr (Or.inr (Or.inl h))))))))))))))))))))))))))))) (fun q => q.elim (fun h => hm (Or.inr (Or.inr (Or.inr (Or.inr (Or.inr (Or.inr (Or.inr (Or.inr (Or.inr (Or.inr (Or.inr (Or.inr (Or.inr (Or.inr (Or.inr (Or.inr (Or.inr (Or.inr (Or.inr (Or.inr (Or.inr (Or.inr (Or.inr (Or.inr (Or.inr (Or.inr (Or.inr (Or.inr (Or.inl h)))))))))))))))))))))))))))))) (fun q => q.elim (fun h => hm (Or.inr (Or.inr (Or.inr (Or.inr (Or.inr (Or.inr (Or.inr (Or.inr (Or.inr (Or.inr (Or.inr (Or.inr (Or.inr (Or.inr (Or.inr (Or.inr (Or.inr (Or.inr (Or.inr (Or.inr (Or.inr (Or.inr (Or.inr (Or.inr (Or.inr (Or.inr (Or.inr (Or.inr (Or.inr (Or.inl h))))))))))))))))))))))))))))))) (fun h => hm (Or.inr (Or.inr (Or.inr (Or.inr (Or.inr (Or.inr (Or.inr (Or.inr (Or.inr (Or.inr (Or.inr (Or.inr (Or.inr (Or.inr (Or.inr (Or.inr (Or.inr (Or.inr (Or.inr (Or.inr (Or.inr (Or.inr (Or.inr (Or.inr (Or.inr (Or.inr (Or.inr (Or.inr (Or.inr (Or.inr h)))))))))))))))))))))))))))))))))))))))))))))).trans ((up_b (Decidable.or_iff_not_imp_left.mpr (fun h1 h2 => hm (Or.inr (Or.inr (Or.inr (Or.inr (Or.inr (Or.inr (Or.inr (Or.inr (Or.inl ⟨Decidable.not_not.mp h1, h2⟩)))))))))))).trans ((hF_178 a j (fun q => q.elim (fun h => hm (Or.inr (Or.inr (Or.inr (Or.inr (Or.inl h)))))) (fun q => q.elim (fun h => hm (Or.inr (Or.inr (Or.inr (Or.inr (Or.inr (Or.inl h))))))) (fun q => q.elim (fun h => hm (Or.inr (Or.inr (Or.inr (Or.inr (Or.inr (Or.inr (Or.inl h)))))))) (fun q => q.elim (fun h => hm (Or.inr (Or.inr (Or.inr (Or.inr (Or.inr (Or.inr (Or.inr (Or.inr (Or.inr (Or.inl h))))))))))) (fun q => q.elim (fun h => hm (Or.inr (Or.inr (Or.inr (Or.inr (Or.inr (Or.inr (Or.inr (Or.inr (Or.inr (Or.inr (Or.inl h)))))))))))) (fun q => q.elim (fun h => hm (Or.inr (Or.inr (Or.inr (Or.inr (Or.inr (Or.inr (Or.inr (Or.inr (Or.inr (Or.inr (Or.inr (Or.inl h))))))))))))) (fun q => q.elim (fun h => hm (Or.inr (Or.inr (Or.inr (Or.inr (Or.inr (Or.inr (Or.inr (Or.inr (Or.inr (Or.inr (Or.inr (Or.inr (Or.inl h)))))))))))))) (fun q => q.elim (fun h => hm (Or.inr (Or.inr (Or.inr (Or.inr (Or.inr (Or.inr (Or.inr (Or.inr (Or.inr (Or.inr (Or.inr (Or.inr (Or.inr (Or.inl h))))))))))))))) (fun q => q.elim (fun h => hm (Or.inr (Or.inr (Or.inr (Or.inr (Or.inr (Or.inr (Or.inr (Or.inr (Or.inr (Or.inr (Or.inr (Or.inr (Or.inr (Or.inr (Or.inl h)))))))))))))))) (fun h => hm (Or.inr (Or.inr (Or.inr (Or.inr (Or.inr (Or.inr (Or.inr (Or.inr (Or.inr (Or.inr (Or.inr (Or.inr (Or.inr (Or.inr (Or.inr (Or.inl h))))))))))))))))))))))))))).trans ((hF_158 a j (fun q => q.elim (fun h => hm (Or.inr (Or.inr (Or.inr (Or.inr (Or.inr (Or.inr (Or.inr (Or.inr (Or.inr (Or.inl h))))))))))) (fun q => q.elim (fun h => hm (Or.inr (Or.inr (Or.inr (Or.inr (Or.inr (Or.inr (Or.inr (Or.inr (Or.inr (Or.inr (Or.inl h)))))))))))) (fun q => q.elim (fun h => hm (Or.inr (Or.inr (Or.inr (Or.inr (Or.inr (Or.inr (Or.inr (Or.inr (Or.inr (Or.inr (Or.inr (Or.inl h))))))))))))) (fun h => hm (Or.inr (Or.inr (Or.inr (Or.inr (Or.inr (Or.inr (Or.inr (Or.inr (Or.inr (Or.inr (Or.inr (Or.inr (Or.inl h)))))))))))))))))).trans ((hF_149 a j (fun q => q.elim (fun h => hm (Or.inr (Or.inr (Or.inl h)))) (fun q => q.elim (fun h => hm (Or.inr (Or.inr (Or.inr (Or.inl h))))) (fun q => q.elim (fun h => hm (Or.inr (Or.inr (Or.inr (Or.inr (Or.inl h)))))) (fun q => q.elim (fun h => hm (Or.inr (Or.inr (Or.inr (Or.inr (Or.inr (Or.inl h))))))) (fun q => q.elim (fun h => hm (Or.inr (Or.inr (Or.inr (Or.inr (Or.inr (Or.inr (Or.inr (Or.inl h))))))))) (fun h => hm (Or.inr (Or.inr (Or.inr (Or.inr (Or.inr (Or.inr (Or.inr (Or.inr (Or.inl h)))))))))))))))).trans (up_b (Decidable.or_iff_not_imp_left.mpr (fun h1 h2 => hm (Or.inl ⟨Decidable.not_not.mp h1, h2⟩))))))))) ⟨by omega, by omega⟩ (by omega) (by omega) (by omega) (by omega) (by omega) (by omega) (by omega) (by omega)

set_option maxRecDepth 100000 in
set_option maxHeartbeats 4000000 in
theorem L_35_l {sc : List Int32} {e eg : Int} {d dh u ug P Q P2 Q2 A : Nat} {c m m9 : ME} {a1 e1 f0 g0 si : Int} {F H : Int → Int} {Z : AR → Prop} (hI : Iv u e P2 Q2 c) (hJ : Iv ug eg P Q m) (hJ9 : Iv ug eg P Q m9) (hA : A = 13 ∨ A = 25) (ha1 : (-2147483648) ≤ a1 ∧ a1 ≤ 2147483647) (hq0 : (f0 = 0)) (hq1 : (g0 = (-1))) (hg_e1 : m 1 1 = e1) (hr_e1 : c 41 3 = e1) (hg_f0 : m 1 4 = f0) (hg_g0 : m 1 5 = g0) (hg_si : m A 2 = si) (hr_si : c 41 22 = si) (hF : ∀ j : Int, m 2 j = F j) (hH : ∀ j : Int, c 43 j = H j) (hU : Ub F H) (hRt : Rt m c) (K : ∀ (c2 : ME) (y : Int), Iv u e P2 Q2 c2 → (∀ (a : Nat) (j : Int), ¬ ((a = 41 ∧ j = 4) ∨ (a = 41 ∧ j = 5) ∨ (a = 41 ∧ j = 6) ∨ a = 61) → c2 a j = c a j) → 0 ≤ y ∧ y ≤ 8 → (Rt m9 c2) → ((m9 1 4 < 0) ∨ (m9 1 4 > 0) ∨ (m9 A 4 = y)) → Wp sc (d + 22) 206 103 [(0, .ref 41), (1, vi a1), (2, vi y)] [] (Wd P2 Q2 P2 P2 c2) 0 0 Z) : ∀ n : Nat, (∀ (c2 m2 : ME) (v : Int) (rd : Int) (a : Int), Iv u e P2 Q2 c2 → (∀ (a : Nat) (j : Int), ¬ ((a = 41 ∧ j = 4) ∨ (a = 41 ∧ j = 5) ∨ (a = 41 ∧ j = 6) ∨ a = 61) → c2 a j = c a j) → Iv ug eg P Q m2 → (∀ (a : Nat) (j : Int), ¬ ((a = 1 ∧ j = 2) ∨ (a = 1 ∧ j = 4) ∨ (a = 1 ∧ j = 5) ∨ (a = A ∧ j = 4) ∨ a = (A + 4) ∨ a = (A + 5)) → m2 a j = m a j) → 0 ≤ v ∧ v ≤ 8 → 0 ≤ rd ∧ rd ≤ 8 → 0 ≤ a ∧ a ≤ 600 → m2 1 2 = a → c2 41 4 = a → m2 1 4 = 0 → c2 41 5 = (-1) → m2 1 5 = (-1) → (∀ j : Int, 0 ≤ j → j < rd → 0 ≤ m2 (A + 5) j ∧ m2 (A + 5) j ≤ 3) → ((rd = v)) → Wp sc (dh + 30) 35 4 [(0, .ref A), (1, .ref 1), (2, vi rd), (3, vi v)] [] (Wd P Q P P m2) 0 0 (fun q => q = (.inl (none), Wd P Q P P m9, 0, 0)) → 9 - v < (n : Int) → Wp sc (d + 22) 206 22 [(0, .ref 41), (1, vi a1), (2, vi v)] [] (Wd P2 Q2 P2 P2 c2) 0 0 Z)
  | 0 => by intro c2 m2 v rd a hI2 hFc hJ2 hFm hv hrd ha hg_a hr_a hc_0 hc_1 hc_2 hx0 hx1 hG2 hm9; exfalso; omega
  | n + 1 => by
    have hP := iv_P hJ
    have hQ := iv_Q hJ
    have ih := L_35_l (sc := sc) (d := d) (dh := dh) hI hJ hJ9 hA ha1 hq0 hq1 hg_e1 hr_e1 hg_f0 hg_g0 hg_si hr_si hF hH hU hRt K n
    intro c2 m2 v rd a hI2 hFc hJ2 hFm hv hrd ha hg_a hr_a hc_0 hc_1 hc_2 hx0 hx1 hG2 hm9
    have h_1 := ir_1_1 hJ
    have h_2 := ir_41_3 hI
    have h_3 := ir_1_4 hJ
    have h_4 := ir_1_5 hJ
    have h_5 := ir_p0_2 hJ hA
    have h_6 := ir_41_22 hI
    have h_7 := ir_1_2 hJ2
    have h_8 := ir_41_4 hI2
    have h_9 := ir_1_4 hJ2
    have h_10 := ir_41_5 hI2
    have h_11 := ir_1_5 hJ2
    refine gh hG2 ?_
    refine q_iload_n rfl rfl ?_
    refine v_bip rfl (by decide) ?_
    refine v_ic_gt_f (t := 75) rfl (by decide) (by omega) ?_
    refine q_aload_n rfl rfl ?_
    refine v_cv rfl rfl rfl rfl (by decide) ⟨⟨rfl, rfl⟩, by decide, rfl⟩ (Nat.le_of_ble_eq_true rfl) (Nat.le_of_ble_eq_true rfl) ?_
    refine q_aload_n rfl rfl ?_
    refine v_cv rfl rfl rfl rfl (by decide) ⟨⟨rfl, rfl⟩, by decide, rfl⟩ (Nat.le_of_ble_eq_true rfl) (Nat.le_of_ble_eq_true rfl) ?_
    refine q_aload_n rfl rfl ?_
    refine v_gi (z := 4) (v := 0) rfl rfl rfl (by decide) rfl rfl (hc_0) ?_
    refine v_if_ne_f (t := 11) rfl (by decide) (by decide) ?_
    refine q_iconst rfl ?_
    refine q_goto (t := 12) rfl (by decide) ?_
    refine v_zret rfl rfl (by decide) ?_
    refine bk_inl ?_
    refine v_if_eq_f (t := 22) rfl (by decide) (by decide) ?_
    refine q_aload_n rfl rfl ?_
    have kn_12 : Hid (m2 1 1 = e1) := (hFm 1 1 (fun q => q.elim (fun h => absurd h.2 (ni rfl)) (fun q => q.elim (fun h => absurd h.2 (ni rfl)) (fun q => q.elim (fun h => absurd h.2 (ni rfl)) (fun q => q.elim (fun h => absurd h.1 (pn0 hA rfl)) (fun q => q.elim (fun h => absurd h (pn hA rfl rfl)) (fun h => absurd h (pn hA rfl rfl)))))))).trans (hg_e1)
    have h_13 : -2147483648 ≤ (F a) ∧ (F a) ≤ 2147483647 := by rw [← hF a]; exact ir_2 hJ a
    have h_14 := nx_bd (b := F) (e := e1) (a := a)
    have h_15 : -2147483648 ≤ (F (nx F e1 a)) ∧ (F (nx F e1 a)) ≤ 2147483647 := by rw [← hF (nx F e1 a)]; exact ir_2 hJ (nx F e1 a)
    have h_16 := nx_n (b := F) (e := e1) (a := a)
    refine v_cv rfl rfl rfl rfl (by decide) ⟨⟨rfl, rfl⟩, by decide, rfl⟩ (Nat.le_of_ble_eq_true rfl) (Nat.le_of_ble_eq_true rfl) (f_3 (e1 := e1) (a9 := a) (B := F) (r8 := (nx F e1 a)) hJ2 ((hid kn_12)) ((hg_a)) (fun j => (hFm 2 j (fun q => q.elim (fun h => absurd h.1 (nn rfl)) (fun q => q.elim (fun h => absurd h.1 (nn rfl)) (fun q => q.elim (fun h => absurd h.1 (nn rfl)) (fun q => q.elim (fun h => absurd h.1 (pn0 hA rfl)) (fun q => q.elim (fun h => absurd h (pn hA rfl rfl)) (fun h => absurd h (pn hA rfl rfl)))))))).trans (hF j)) rfl (fun c_17 hI_18 hF_19 hz_20 => ?_))
    refine bk_inl ?_
    refine q_aload_n rfl rfl ?_
    have kn_21 : Hid (c_17 1 1 = e1) := (hF_19 1 1 (fun h => absurd h.2 (ni rfl))).trans (hid kn_12)
    refine v_gi (z := 1) (v := e1) rfl rfl rfl (by decide) rfl rfl (hid kn_21) ?_
    by_cases h_22 : (nx F e1 a) ≥ e1
    · refine v_ic_ge_t (t := 22) rfl (by decide) (by omega) ?_
      refine q_iconst rfl ?_
      refine v_zret rfl rfl (by decide) ?_
      refine bk_inl ?_
      refine v_if_eq_t (t := 75) rfl (by decide) (by decide) ?_
      refine q_aload_n rfl rfl ?_
      refine v_cv rfl rfl rfl rfl (by decide) ⟨⟨rfl, rfl⟩, by decide, rfl⟩ (Nat.le_of_ble_eq_true rfl) (Nat.le_of_ble_eq_true rfl) ?_
      refine q_aload_n rfl rfl ?_
      have kn_23 : Hid (c_17 1 4 = 0) := (hF_19 1 4 (fun h => absurd h.2 (ni rfl))).trans (hc_0)
      refine v_gi (z := 4) (v := 0) rfl rfl rfl (by decide) rfl rfl (hid kn_23) ?_
      refine v_if_ne_f (t := 11) rfl (by decide) (by decide) ?_
      refine q_iconst rfl ?_
      refine q_goto (t := 12) rfl (by decide) ?_
      refine v_zret rfl rfl (by decide) ?_
      refine bk_inl ?_
      refine v_if_eq_f (t := 102) rfl (by decide) (by decide) ?_
      refine q_aload_n rfl rfl ?_
      refine v_gr (t := (A + 5)) rfl rfl (ck_p0 hA) (by omega) rfl ?_
      refine q_iconst rfl ?_
      refine q_aload_n rfl rfl ?_
      refine v_gr (t := (A + 4)) rfl rfl (ck_p0 hA) (by omega) rfl ?_
      refine q_iconst rfl ?_
      refine v_bip rfl (by decide) ?_
      refine v_cpy rfl rfl (ck_p4 hA) (by omega) (ck_p5 hA) (by omega) rfl rfl (by omega) (Nat.le_of_ble_eq_true rfl) (by omega) ?_
      refine q_aload_n rfl rfl ?_
      refine q_iload_n rfl rfl ?_
      refine v_pi (z := 4) rfl rfl (ck_p0 hA) (by omega) rfl rfl rfl (by decide) ?_
      refine q_vret rfl rfl ?_
      have hr_26 : ∀ j : Int, 0 ≤ j → j < rd → 0 ≤ c_17 (A + 5) j ∧ c_17 (A + 5) j ≤ 3 := by
        intro j hj1 hj2
        have q9 : c_17 (A + 5) j = m2 (A + 5) j := hF_19 (A + 5) j (by omega)
        rw [q9]
        exact hx0 j hj1 (by omega)
      have hI_25 := iw_stk (v := rd) hI_18 hA ⟨by omega, by omega⟩ hr_26
      intro hE_27
      have hW : Wd P Q P P (up (upc c_17 (A + 5) 0 (A + 4) 0 8) A 4 rd) = Wd P Q P P m9 := (Prod.mk.inj (Prod.mk.inj hE_27).2).1
      have h_28 := ir_1_4 hJ9
      have h_29 : m9 1 4 = 0 := wd_fv (z := 4) 4 rfl hW rfl rfl rfl rfl (by decide) ((up_c (pn0 hA rfl)).trans ((upc_c (by omega)).trans (hid kn_23))) ⟨by omega, by omega⟩ ⟨by omega, by omega⟩
      have h_30 := ir_1_2 hJ9
      have h_31 : m9 1 2 = (nx F e1 a) := wd_fv (z := 2) 2 rfl hW rfl rfl rfl rfl (by decide) ((up_c (pn0 hA rfl)).trans ((upc_c (by omega)).trans (hz_20))) ⟨by omega, by omega⟩ ⟨by omega, by omega⟩
      have kn_32 : Hid (c_17 1 5 = (-1)) := (hF_19 1 5 (fun h => absurd h.2 (ni rfl))).trans (hc_2)
      have h_33 := ir_1_5 hJ9
      have h_34 : m9 1 5 = (-1) := wd_fv (z := 5) 5 rfl hW rfl rfl rfl rfl (by decide) ((up_c (pn0 hA rfl)).trans ((upc_c (by omega)).trans (hid kn_32))) ⟨by omega, by omega⟩ ⟨by omega, by omega⟩
      have h_35 := ir_p0_4 hJ9 hA
      have h_36 : m9 A 4 = rd := wd_fv (z := 4) 4 rfl hW (ck_p0 hA) (ck_p0 hA) rfl rfl (by omega) (up_e rfl) ⟨by omega, by omega⟩ ⟨by omega, by omega⟩
      refine q_aload_n rfl rfl ?_
      refine v_cv rfl rfl rfl rfl (by decide) ⟨⟨rfl, rfl⟩, by decide, rfl⟩ (Nat.le_of_ble_eq_true rfl) (Nat.le_of_ble_eq_true rfl) ?_
      refine q_aload_n rfl rfl ?_
      refine v_gi (z := 5) (v := (-1)) rfl rfl rfl (by decide) rfl rfl (hc_1) ?_
      refine q_iconst rfl ?_
      refine v_ic_ne_f (t := 12) rfl (by decide) (by decide) ?_
      refine q_iconst rfl ?_
      refine q_goto (t := 13) rfl (by decide) ?_
      refine v_zret rfl rfl (by decide) ?_
      refine bk_inl ?_
      refine v_if_eq_f (t := 103) rfl (by decide) (by decide) ?_
      refine q_aload_n rfl rfl ?_
      refine v_cv rfl rfl rfl rfl (by decide) ⟨⟨rfl, rfl⟩, by decide, rfl⟩ (Nat.le_of_ble_eq_true rfl) (Nat.le_of_ble_eq_true rfl) ?_
      refine q_aload_n rfl rfl ?_
      have kn_37 : Hid (c2 41 3 = e1) := (hFc 41 3 (fun q => q.elim (fun h => absurd h.2 (ni rfl)) (fun q => q.elim (fun h => absurd h.2 (ni rfl)) (fun q => q.elim (fun h => absurd h.2 (ni rfl)) (fun h => absurd h (nn rfl)))))).trans (hr_e1)
      have h_38 : -2147483648 ≤ (H (nx F e1 a)) ∧ (H (nx F e1 a)) ≤ 2147483647 := by rw [← hH (nx F e1 a)]; exact ir_43 hI (nx F e1 a)
      have h_39 : (nx F e1 a) < 600 → (H (nx F e1 a)) = (F (nx F e1 a)) % 256 ∧ -128 ≤ (F (nx F e1 a)) ∧ (F (nx F e1 a)) ≤ 127 := fun q => hU (nx F e1 a) (by omega) q
      have h_40 := hb_or (b := H) (e := e1) (r := (nx F e1 a))
      have h_41 := hb_bd (b := H) (e := e1) (r := (nx F e1 a)) (lo := -2147483648) (hi := 2147483647) ⟨by omega, by omega⟩ (by decide)
      refine v_cv rfl rfl rfl rfl (by decide) ⟨⟨rfl, rfl⟩, by decide, rfl⟩ (Nat.le_of_ble_eq_true rfl) (Nat.le_of_ble_eq_true rfl) (f_154 (e1 := e1) (a9 := a) (B := H) (r8 := (nx F e1 a)) (r := (hb H e1 (nx F e1 a))) hI2 ((hid kn_37)) ((hr_a)) (fun j => (hFc 43 j (fun q => q.elim (fun h => absurd h.1 (nn rfl)) (fun q => q.elim (fun h => absurd h.1 (nn rfl)) (fun q => q.elim (fun h => absurd h.1 (nn rfl)) (fun h => absurd h (nn rfl)))))).trans (hH j)) ((nx_tr hU (by omega) (by omega)).trans (rfl)) rfl (fun c_42 hI_43 hF_44 h_45 => ?_))
      refine bk_inl ?_
      refine q_pop rfl rfl ?_
      refine q_aload_n rfl rfl ?_
      refine v_gi (z := 4) (v := (nx F e1 a)) rfl rfl rfl (by decide) rfl rfl (h_45) ?_
      refine q_aload_n rfl rfl ?_
      have kn_46 : Hid (c_42 41 3 = e1) := (hF_44 41 3 (fun h => absurd h.2 (ni rfl))).trans (hid kn_37)
      refine v_gi (z := 3) (v := e1) rfl rfl rfl (by decide) rfl rfl (hid kn_46) ?_
      refine v_ic_ge_t (t := 20) rfl (by decide) (by omega) ?_
      refine q_iconst rfl ?_
      refine v_zret rfl rfl (by decide) ?_
      refine bk_inl ?_
      refine v_if_eq_t (t := 103) rfl (by decide) (by decide) ?_
      refine Wp_ls [(0, .ref 41), (1, vi a1), (2, vi v)] (lsub_cons rfl (lsub_cons rfl (lsub_cons rfl lsub_nil))) ?_
      have kn_47 : Hid (c_42 41 5 = (-1)) := (hF_44 41 5 (fun h => absurd h.2 (ni rfl))).trans (hc_1)
      have h_48 : c_42 41 5 = (-1) := (hid kn_47)
      have h_49 : c_42 41 4 = (nx F e1 a) := (h_45)
      have h_50 := ir_41_6 hI2
      have kn_51 : Hid (c_42 41 6 = c2 41 6) := hF_44 41 6 (fun h => absurd h.2 (ni rfl))
      have h_52 : c_42 41 6 = c2 41 6 := (hid kn_51)
      exact K c_42 v hI_43 (fun a j hm => (hF_44 a j (fun h => hm (Or.inl h))).trans (hFc a j (fun q => q.elim (fun h => hm (Or.inl h)) (fun q => q.elim (fun h => hm (Or.inr (Or.inl h))) (fun q => q.elim (fun h => hm (Or.inr (Or.inr (Or.inl h)))) (fun h => hm (Or.inr (Or.inr (Or.inr h))))))))) ⟨by omega, by omega⟩ (by unfold Rt; omega) (by omega)
    · refine v_ic_ge_f (t := 22) rfl (by decide) (by omega) ?_
      refine q_iconst rfl ?_
      refine q_goto (t := 23) rfl (by decide) ?_
      refine v_zret rfl rfl (by decide) ?_
      refine bk_inl ?_
      refine v_if_eq_f (t := 75) rfl (by decide) (by decide) ?_
      refine q_aload_n rfl rfl ?_
      refine v_cv rfl rfl rfl rfl (by decide) ⟨⟨rfl, rfl⟩, by decide, rfl⟩ (Nat.le_of_ble_eq_true rfl) (Nat.le_of_ble_eq_true rfl) (f_3 (e1 := e1) (a9 := (nx F e1 a)) (B := F) (r8 := (nx F e1 a)) hI_18 ((hid kn_21)) ((hz_20)) (fun j => ((hF_19 2 j (fun h => absurd h.1 (nn rfl))).trans (hFm 2 j (fun q => q.elim (fun h => absurd h.1 (nn rfl)) (fun q => q.elim (fun h => absurd h.1 (nn rfl)) (fun q => q.elim (fun h => absurd h.1 (nn rfl)) (fun q => q.elim (fun h => absurd h.1 (pn0 hA rfl)) (fun q => q.elim (fun h => absurd h (pn hA rfl rfl)) (fun h => absurd h (pn hA rfl rfl))))))))).trans (hF j)) (nx_z (by omega)) (fun c_53 hI_54 hF_55 hz_56 => ?_))
      refine bk_inl ?_
      refine q_istore rfl (by decide) ?_
      refine q_aload_n rfl rfl ?_
      refine q_aload_n rfl rfl ?_
      have kn_57 : Hid (m2 A 2 = si) := (hFm A 2 (fun q => q.elim (fun h => absurd h.1 (np0 hA rfl)) (fun q => q.elim (fun h => absurd h.1 (np0 hA rfl)) (fun q => q.elim (fun h => absurd h.1 (np0 hA rfl)) (fun q => q.elim (fun h => absurd h.2 (ni rfl)) (fun q => q.elim (fun h => absurd h (p0p rfl)) (fun h => absurd h (p0p rfl)))))))).trans (hg_si)
      have kn_58 : Hid (c_17 A 2 = si) := (hF_19 A 2 (fun h => absurd h.1 (np0 hA rfl))).trans (hid kn_57)
      have kn_59 : Hid (c_53 A 2 = si) := (hF_55 A 2 (fun h => absurd h.1 (np0 hA rfl))).trans (hid kn_58)
      refine v_gi (z := 2) (v := si) rfl rfl (ck_p0 hA) (by omega) rfl rfl (hid kn_59) ?_
      refine q_iconst rfl ?_
      refine v_isub (v := si - 1) rfl (by omega) ?_
      have kn_60 : Hid (c_17 1 4 = 0) := (hF_19 1 4 (fun h => absurd h.2 (ni rfl))).trans (hc_0)
      have kn_61 : Hid (c_53 1 4 = 0) := (hF_55 1 4 (fun h => absurd h.2 (ni rfl))).trans (hid kn_60)
      refine v_cv rfl rfl rfl rfl (by decide) ⟨⟨rfl, rfl⟩, by decide, rfl⟩ (Nat.le_of_ble_eq_true rfl) (Nat.le_of_ble_eq_true rfl) (fn_of (s_8 (a1 := si - 1) hI_54 (show (-1) ≤ si - 1 ∧ si - 1 ≤ 9999 from by omega) (fun c_62 y_65 hI_63 hF_64 hy_65 h_66 => ?_)))
      intro hG_67
      refine bk_inl ?_
      refine q_istore rfl (by decide) ?_
      refine q_iload_n rfl rfl ?_
      refine v_bip rfl (by decide) ?_
      by_cases h_68 : v ≠ 8
      · refine v_ic_ne_t (t := 51) rfl (by decide) (by omega) ?_
        refine q_aload_n rfl rfl ?_
        refine v_gr (t := (A + 5)) rfl rfl (ck_p0 hA) (by omega) rfl ?_
        refine q_iload_n rfl rfl ?_
        refine q_iload rfl rfl ?_
        refine v_is rfl (ck_p5 hA) (by omega) (by decide) (by omega) ?_
        refine q_iload_n rfl rfl ?_
        refine q_iconst rfl ?_
        refine v_iadd (v := v + 1) rfl (by omega) ?_
        refine q_istore_n rfl (by decide) ?_
        refine q_aload_n rfl rfl ?_
        refine q_ldc_s rfl rfl rfl (by decide) ?_
        have h_69 := ir_1_4 hI_63
        have hI_70 := iw_p5 (j := v) (v := y_65) hI_63 hA ⟨by omega, by omega⟩
        refine v_cv rfl rfl rfl rfl (by decide) ⟨⟨rfl, rfl⟩, by decide, rfl⟩ (Nat.le_of_ble_eq_true rfl) (Nat.le_of_ble_eq_true rfl) (fn_of (s_11 hI_70 (q := 9) (nt := 1) (by decide) (by decide) (by decide) (fun c_71 hI_72 hF_73 => ?_)))
        intro hG_74
        refine bk_inl ?_
        refine v_iinc (v := v + 1) rfl rfl (by decide) (by omega) ?_
        refine q_goto (t := 4) rfl (by decide) ?_
        have h_75 := ir_1_4 hI_72
        by_cases h_76 : c_71 1 4 = 0
        · skip
          refine Wp_ls [(0, .ref A), (1, .ref 1), (2, vi (v + 1)), (3, vi (v + 1))] (lsub_cons rfl (lsub_cons rfl (lsub_cons rfl (lsub_cons rfl lsub_nil)))) ?_
          have hr_78 : ∀ j : Int, 0 ≤ j → j < v + 1 → 0 ≤ c_71 (A + 5) j ∧ c_71 (A + 5) j ≤ 3 := by
            intro j hj1 hj2
            by_cases e9 : j = v
            · have q9 : c_71 (A + 5) j = y_65 := (hF_73 (A + 5) j (by omega)).trans (up_e e9)
              rw [q9]
              omega
            · have q9 : c_71 (A + 5) j = m2 (A + 5) j := (hF_73 (A + 5) j (by omega)).trans ((up_n e9).trans ((hF_64 (A + 5) j (by omega)).trans ((hF_55 (A + 5) j (by omega)).trans (hF_19 (A + 5) j (by omega)))))
              rw [q9]
              exact hx0 j hj1 (by omega)
          refine gh_stop (s_35_l (sc := sc) (d := dh + 20) (c := c_71) (Z := fun _ => True) hI_72 hA (fun _ _ _ => trivial) 20 c_71 (v + 1) (v + 1) hI_72 (fun a j hm => rfl) ⟨by omega, by omega⟩ ⟨by omega, by omega⟩ hr_78 (by omega) (by omega)) (fun hG_77 => ?_)
          refine q_aload_n rfl rfl ?_
          refine v_cv rfl rfl rfl rfl (by decide) ⟨⟨rfl, rfl⟩, by decide, rfl⟩ (Nat.le_of_ble_eq_true rfl) (Nat.le_of_ble_eq_true rfl) ?_
          refine q_aload_n rfl rfl ?_
          refine v_gi (z := 5) (v := (-1)) rfl rfl rfl (by decide) rfl rfl (hc_1) ?_
          refine q_iconst rfl ?_
          refine v_ic_ne_f (t := 12) rfl (by decide) (by decide) ?_
          refine q_iconst rfl ?_
          refine q_goto (t := 13) rfl (by decide) ?_
          refine v_zret rfl rfl (by decide) ?_
          refine bk_inl ?_
          refine v_if_eq_f (t := 103) rfl (by decide) (by decide) ?_
          refine q_aload_n rfl rfl ?_
          refine v_cv rfl rfl rfl rfl (by decide) ⟨⟨rfl, rfl⟩, by decide, rfl⟩ (Nat.le_of_ble_eq_true rfl) (Nat.le_of_ble_eq_true rfl) ?_
          refine q_aload_n rfl rfl ?_
          have kn_79 : Hid (c2 41 3 = e1) := (hFc 41 3 (fun q => q.elim (fun h => absurd h.2 (ni rfl)) (fun q => q.elim (fun h => absurd h.2 (ni rfl)) (fun q => q.elim (fun h => absurd h.2 (ni rfl)) (fun h => absurd h (nn rfl)))))).trans (hr_e1)
          have h_80 : -2147483648 ≤ (H (nx F e1 a)) ∧ (H (nx F e1 a)) ≤ 2147483647 := by rw [← hH (nx F e1 a)]; exact ir_43 hI (nx F e1 a)
          have h_81 := hU (nx F e1 a) (by omega) (by omega)
          have h_82 := hb_or (b := H) (e := e1) (r := (nx F e1 a))
          have h_83 := hb_bd (b := H) (e := e1) (r := (nx F e1 a)) (lo := -2147483648) (hi := 2147483647) ⟨by omega, by omega⟩ (by decide)
          refine v_cv rfl rfl rfl rfl (by decide) ⟨⟨rfl, rfl⟩, by decide, rfl⟩ (Nat.le_of_ble_eq_true rfl) (Nat.le_of_ble_eq_true rfl) (f_154 (e1 := e1) (a9 := a) (B := H) (r8 := (nx F e1 a)) (r := (hb H e1 (nx F e1 a))) hI2 ((hid kn_79)) ((hr_a)) (fun j => (hFc 43 j (fun q => q.elim (fun h => absurd h.1 (nn rfl)) (fun q => q.elim (fun h => absurd h.1 (nn rfl)) (fun q => q.elim (fun h => absurd h.1 (nn rfl)) (fun h => absurd h (nn rfl)))))).trans (hH j)) ((nx_tr hU (by omega) (by omega)).trans (rfl)) rfl (fun c_84 hI_85 hF_86 h_87 => ?_))
          refine bk_inl ?_
          refine q_pop rfl rfl ?_
          refine q_aload_n rfl rfl ?_
          refine v_gi (z := 4) (v := (nx F e1 a)) rfl rfl rfl (by decide) rfl rfl (h_87) ?_
          refine q_aload_n rfl rfl ?_
          have kn_88 : Hid (c_84 41 3 = e1) := (hF_86 41 3 (fun h => absurd h.2 (ni rfl))).trans (hid kn_79)
          refine v_gi (z := 3) (v := e1) rfl rfl rfl (by decide) rfl rfl (hid kn_88) ?_
          refine v_ic_ge_f (t := 20) rfl (by decide) (by omega) ?_
          refine q_iconst rfl ?_
          refine q_goto (t := 21) rfl (by decide) ?_
          refine v_zret rfl rfl (by decide) ?_
          refine bk_inl ?_
          refine v_if_eq_f (t := 103) rfl (by decide) (by decide) ?_
          refine q_aload_n rfl rfl ?_
          refine v_gi (z := 4) (v := (nx F e1 a)) rfl rfl rfl (by decide) rfl rfl (h_87) ?_
          refine q_istore_n rfl (by decide) ?_
          refine q_aload_n rfl rfl ?_
          refine q_iconst rfl ?_
          refine q_aload_n rfl rfl ?_
          have kn_89 : Hid (c2 41 22 = si) := (hFc 41 22 (fun q => q.elim (fun h => absurd h.2 (ni rfl)) (fun q => q.elim (fun h => absurd h.2 (ni rfl)) (fun q => q.elim (fun h => absurd h.2 (ni rfl)) (fun h => absurd h (nn rfl)))))).trans (hr_si)
          have kn_90 : Hid (c_84 41 22 = si) := (hF_86 41 22 (fun h => absurd h.2 (ni rfl))).trans (hid kn_89)
          refine v_gi (z := 22) (v := si) rfl rfl rfl (by decide) rfl rfl (hid kn_90) ?_
          refine q_iconst rfl ?_
          refine v_isub (v := si - 1) rfl (by omega) ?_
          have kn_91 : Hid (c_53 1 1 = e1) := (hF_55 1 1 (fun h => absurd h.2 (ni rfl))).trans (hid kn_21)
          have h_92 : c_53 1 4 = 0 := (hid kn_61)
          have h_93 : c_53 1 2 = (nx F e1 a) := (hz_56)
          have kn_94 : Hid (c_17 1 5 = (-1)) := (hF_19 1 5 (fun h => absurd h.2 (ni rfl))).trans (hc_2)
          have kn_95 : Hid (c_53 1 5 = (-1)) := (hF_55 1 5 (fun h => absurd h.2 (ni rfl))).trans (hid kn_94)
          have h_96 : c_53 1 5 = (-1) := (hid kn_95)
          have kn_97 : Hid (c_84 41 5 = (-1)) := (hF_86 41 5 (fun h => absurd h.2 (ni rfl))).trans (hc_1)
          have h_98 : c_84 41 5 = (-1) := (hid kn_97)
          have h_99 : c_84 41 4 = (nx F e1 a) := (h_87)
          have h_100 := ir_41_6 hI2
          have kn_101 : Hid (c_84 41 6 = c2 41 6) := hF_86 41 6 (fun h => absurd h.2 (ni rfl))
          have h_102 : c_84 41 6 = c2 41 6 := (hid kn_101)
          refine v_cv rfl rfl rfl rfl (by decide) ⟨⟨rfl, rfl⟩, by decide, rfl⟩ (Nat.le_of_ble_eq_true rfl) (Nat.le_of_ble_eq_true rfl) (L_8 (m := c_53) (a2 := si - 1) (yg := y_65) (e1 := e1) (a9 := (nx F e1 a)) (F := F) (H := H) hI_85 hI_54 hI_63 (show (-1) ≤ si - 1 ∧ si - 1 ≤ 9999 from by omega) ⟨by omega, by omega⟩ ((hid kn_91)) ((hid kn_88)) ((hz_56)) (fun j => ((hF_55 2 j (fun h => absurd h.1 (nn rfl))).trans ((hF_19 2 j (fun h => absurd h.1 (nn rfl))).trans (hFm 2 j (fun q => q.elim (fun h => absurd h.1 (nn rfl)) (fun q => q.elim (fun h => absurd h.1 (nn rfl)) (fun q => q.elim (fun h => absurd h.1 (nn rfl)) (fun q => q.elim (fun h => absurd h.1 (pn0 hA rfl)) (fun q => q.elim (fun h => absurd h (pn hA rfl rfl)) (fun h => absurd h (pn hA rfl rfl)))))))))).trans (hF j)) (fun j => ((hF_86 43 j (fun h => absurd h.1 (nn rfl))).trans (hFc 43 j (fun q => q.elim (fun h => absurd h.1 (nn rfl)) (fun q => q.elim (fun h => absurd h.1 (nn rfl)) (fun q => q.elim (fun h => absurd h.1 (nn rfl)) (fun h => absurd h (nn rfl))))))).trans (hH j)) hU (by unfold Rt; omega) hG_67 (fun c_103 y_106 hI_104 hF_105 hy_106 hR_107 h_108 h_109 => ?_))
          refine bk_inl ?_
          have hs_110 := h_108.symm
          subst hs_110
          have h_111 := ir_1_2 hI_63
          refine q_istore rfl (by decide) ?_
          refine q_aload_n rfl rfl ?_
          refine v_cv rfl rfl rfl rfl (by decide) ⟨⟨rfl, rfl⟩, by decide, rfl⟩ (Nat.le_of_ble_eq_true rfl) (Nat.le_of_ble_eq_true rfl) ?_
          refine q_aload_n rfl rfl ?_
          have h_112 := ir_41_5 hI_104
          have h_113 := ir_1_5 hI_63
          have h_114 := ir_41_4 hI_104
          have h_115 := ir_41_6 hI_104
          have h_116 := rt_or hR_107
          refine v_gi (z := 5) (v := c_103 41 5) rfl rfl rfl (by decide) rfl rfl rfl ?_
          refine q_iconst rfl ?_
          by_cases h_117 : c_103 41 5 ≠ (-1)
          · refine v_ic_ne_t (t := 12) rfl (by decide) (by omega) ?_
            refine q_iconst rfl ?_
            refine v_zret rfl rfl (by decide) ?_
            refine bk_inl ?_
            refine v_if_eq_t (t := 73) rfl (by decide) (by decide) ?_
            refine q_aload_n rfl rfl ?_
            refine v_bip rfl (by decide) ?_
            have kn_118 : Hid (c_62 1 1 = e1) := (hF_64 1 1 (fun q => q.elim (fun h => absurd h.2 (ni rfl)) (fun q => q.elim (fun h => absurd h.2 (ni rfl)) (fun h => absurd h.2 (ni rfl))))).trans (hid kn_91)
            have kn_119 : Hid (c_103 41 3 = e1) := (hF_105 41 3 (fun q => q.elim (fun h => absurd h.2 (ni rfl)) (fun q => q.elim (fun h => absurd h.2 (ni rfl)) (fun h => absurd h.2 (ni rfl))))).trans (hid kn_88)
            refine v_cv rfl rfl rfl rfl (by decide) ⟨⟨rfl, rfl⟩, by decide, rfl⟩ (Nat.le_of_ble_eq_true rfl) (Nat.le_of_ble_eq_true rfl) (L_11_9 (m := up c_62 (A + 5) v y_65) (e1 := e1) (a9 := c_62 1 2) (F := F) (H := H) hI_104 hI_70 hI_72 (((up_c (pn hA rfl rfl)).trans (hid kn_118))) ((hid kn_119)) ((up_c (pn hA rfl rfl))) (fun j => ((up_c (pn hA rfl rfl)).trans ((hF_64 2 j (fun q => q.elim (fun h => absurd h.1 (nn rfl)) (fun q => q.elim (fun h => absurd h.1 (nn rfl)) (fun h => absurd h.1 (nn rfl))))).trans ((hF_55 2 j (fun h => absurd h.1 (nn rfl))).trans ((hF_19 2 j (fun h => absurd h.1 (nn rfl))).trans (hFm 2 j (fun q => q.elim (fun h => absurd h.1 (nn rfl)) (fun q => q.elim (fun h => absurd h.1 (nn rfl)) (fun q => q.elim (fun h => absurd h.1 (nn rfl)) (fun q => q.elim (fun h => absurd h.1 (pn0 hA rfl)) (fun q => q.elim (fun h => absurd h (pn hA rfl rfl)) (fun h => absurd h (pn hA rfl rfl)))))))))))).trans (hF j)) (fun j => ((hF_105 43 j (fun q => q.elim (fun h => absurd h.1 (nn rfl)) (fun q => q.elim (fun h => absurd h.1 (nn rfl)) (fun h => absurd h.1 (nn rfl))))).trans ((hF_86 43 j (fun h => absurd h.1 (nn rfl))).trans (hFc 43 j (fun q => q.elim (fun h => absurd h.1 (nn rfl)) (fun q => q.elim (fun h => absurd h.1 (nn rfl)) (fun q => q.elim (fun h => absurd h.1 (nn rfl)) (fun h => absurd h (nn rfl)))))))).trans (hH j)) hU (rt_fr hR_107 (up_c (pn hA rfl rfl)) (up_c (pn hA rfl rfl)) (up_c (pn hA rfl rfl)) (rfl) (rfl) (rfl)) hG_74 (fun c_120 hI_121 hF_122 hR_124 h_125 => ?_))
            refine bk_inl ?_
            have h_126 := ir_1_2 hI_72
            refine q_aload_n rfl rfl ?_
            refine v_cv rfl rfl rfl rfl (by decide) ⟨⟨rfl, rfl⟩, by decide, rfl⟩ (Nat.le_of_ble_eq_true rfl) (Nat.le_of_ble_eq_true rfl) ?_
            refine q_aload_n rfl rfl ?_
            have h_127 := ir_41_5 hI_121
            have h_128 := ir_1_5 hI_72
            have h_129 := ir_41_4 hI_121
            have h_130 := ir_41_6 hI_121
            have h_131 := rt_ok hR_124 (by omega)
            have hro_hR_124 := rt_ok hR_124 (by omega)
            refine v_gi (z := 5) (v := (-1)) rfl rfl rfl (by decide) rfl rfl hro_hR_124.2.1 ?_
            refine q_iconst rfl ?_
            refine v_ic_ne_f (t := 12) rfl (by decide) (by decide) ?_
            refine q_iconst rfl ?_
            refine q_goto (t := 13) rfl (by decide) ?_
            refine v_zret rfl rfl (by decide) ?_
            refine bk_inl ?_
            refine v_if_ne_t (t := 89) rfl (by decide) (by decide) ?_
            refine q_aload_n rfl rfl ?_
            refine v_gr (t := 61) rfl rfl rfl (by decide) rfl ?_
            refine q_iload_n rfl rfl ?_
            refine q_iload rfl rfl ?_
            refine v_is rfl rfl (by decide) (by decide) (by omega) ?_
            refine v_iinc (v := v + 1) rfl rfl (by decide) (by omega) ?_
            refine q_goto (t := 22) rfl (by decide) ?_
            have hI_132 := iw_61 (j := v) (v := y_65) hI_121 ⟨by omega, by omega⟩
            refine Wp_ls [(0, .ref 41), (1, vi a1), (2, vi (v + 1))] (lsub_cons rfl (lsub_cons rfl (lsub_cons rfl lsub_nil))) ?_
            have hr_133 : ∀ j : Int, 0 ≤ j → j < v + 1 → 0 ≤ c_71 (A + 5) j ∧ c_71 (A + 5) j ≤ 3 := by
              intro j hj1 hj2
              by_cases e9 : j = v
              · have q9 : c_71 (A + 5) j = y_65 := (hF_73 (A + 5) j (by omega)).trans (up_e e9)
                rw [q9]
                omega
              · have q9 : c_71 (A + 5) j = m2 (A + 5) j := (hF_73 (A + 5) j (by omega)).trans ((up_n e9).trans ((hF_64 (A + 5) j (by omega)).trans ((hF_55 (A + 5) j (by omega)).trans (hF_19 (A + 5) j (by omega)))))
                rw [q9]
                exact hx0 j hj1 (by omega)
            exact ih (up c_120 61 v y_65) c_71 (v + 1) (v + 1) (c_71 1 2) hI_132 (fun a j hm => (up_b (Decidable.or_iff_not_imp_left.mpr (fun h1 h2 => hm (Or.inr (Or.inr (Or.inr (Decidable.not_not.mp h1))))))).trans ((hF_122 a j (fun q => q.elim (fun h => hm (Or.inl h)) (fun q => q.elim (fun h => hm (Or.inr (Or.inl h))) (fun h => hm (Or.inr (Or.inr (Or.inl h))))))).trans ((hF_105 a j (fun q => q.elim (fun h => hm (Or.inl h)) (fun q => q.elim (fun h => hm (Or.inr (Or.inl h))) (fun h => hm (Or.inr (Or.inr (Or.inl h))))))).trans ((hF_86 a j (fun h => hm (Or.inl h))).trans (hFc a j (fun q => q.elim (fun h => hm (Or.inl h)) (fun q => q.elim (fun h => hm (Or.inr (Or.inl h))) (fun q => q.elim (fun h => hm (Or.inr (Or.inr (Or.inl h)))) (fun h => hm (Or.inr (Or.inr (Or.inr h)))))))))))) hI_72 (fun a j hm => (hF_73 a j (fun q => q.elim (fun h => hm (Or.inl h)) (fun q => q.elim (fun h => hm (Or.inr (Or.inl h))) (fun h => hm (Or.inr (Or.inr (Or.inl h))))))).trans ((up_b (Decidable.or_iff_not_imp_left.mpr (fun h1 h2 => hm (Or.inr (Or.inr (Or.inr (Or.inr (Or.inr (Decidable.not_not.mp h1))))))))).trans ((hF_64 a j (fun q => q.elim (fun h => hm (Or.inl h)) (fun q => q.elim (fun h => hm (Or.inr (Or.inl h))) (fun h => hm (Or.inr (Or.inr (Or.inl h))))))).trans ((hF_55 a j (fun h => hm (Or.inl h))).trans ((hF_19 a j (fun h => hm (Or.inl h))).trans (hFm a j (fun q => q.elim (fun h => hm (Or.inl h)) (fun q => q.elim (fun h => hm (Or.inr (Or.inl h))) (fun q => q.elim (fun h => hm (Or.inr (Or.inr (Or.inl h)))) (fun q => q.elim (fun h => hm (Or.inr (Or.inr (Or.inr (Or.inl h))))) (fun q => q.elim (fun h => hm (Or.inr (Or.inr (Or.inr (Or.inr (Or.inl h)))))) (fun h => hm (Or.inr (Or.inr (Or.inr (Or.inr (Or.inr h))))))))))))))))) ⟨by omega, by omega⟩ ⟨by omega, by omega⟩ ⟨by omega, by omega⟩ (rfl) ((((up_c (nn rfl))).trans (hro_hR_124.2.2.1))) ((show _ = c_71 1 4 from rfl).trans (by omega)) ((((up_c (nn rfl))).trans (hro_hR_124.2.1))) ((show _ = c_71 1 5 from rfl).trans (by omega)) hr_133 (by omega) hG_77 (by omega)
          · refine v_ic_ne_f (t := 12) rfl (by decide) (by omega) ?_
            refine q_iconst rfl ?_
            refine q_goto (t := 13) rfl (by decide) ?_
            refine v_zret rfl rfl (by decide) ?_
            refine bk_inl ?_
            refine v_if_eq_f (t := 73) rfl (by decide) (by decide) ?_
            refine q_iload_n rfl rfl ?_
            refine v_bip rfl (by decide) ?_
            refine v_ic_ne_t (t := 73) rfl (by decide) (by omega) ?_
            refine q_aload_n rfl rfl ?_
            refine v_bip rfl (by decide) ?_
            have kn_134 : Hid (c_62 1 1 = e1) := (hF_64 1 1 (fun q => q.elim (fun h => absurd h.2 (ni rfl)) (fun q => q.elim (fun h => absurd h.2 (ni rfl)) (fun h => absurd h.2 (ni rfl))))).trans (hid kn_91)
            have kn_135 : Hid (c_103 41 3 = e1) := (hF_105 41 3 (fun q => q.elim (fun h => absurd h.2 (ni rfl)) (fun q => q.elim (fun h => absurd h.2 (ni rfl)) (fun h => absurd h.2 (ni rfl))))).trans (hid kn_88)
            refine v_cv rfl rfl rfl rfl (by decide) ⟨⟨rfl, rfl⟩, by decide, rfl⟩ (Nat.le_of_ble_eq_true rfl) (Nat.le_of_ble_eq_true rfl) (L_11_9 (m := up c_62 (A + 5) v y_65) (e1 := e1) (a9 := c_62 1 2) (F := F) (H := H) hI_104 hI_70 hI_72 (((up_c (pn hA rfl rfl)).trans (hid kn_134))) ((hid kn_135)) ((up_c (pn hA rfl rfl))) (fun j => ((up_c (pn hA rfl rfl)).trans ((hF_64 2 j (fun q => q.elim (fun h => absurd h.1 (nn rfl)) (fun q => q.elim (fun h => absurd h.1 (nn rfl)) (fun h => absurd h.1 (nn rfl))))).trans ((hF_55 2 j (fun h => absurd h.1 (nn rfl))).trans ((hF_19 2 j (fun h => absurd h.1 (nn rfl))).trans (hFm 2 j (fun q => q.elim (fun h => absurd h.1 (nn rfl)) (fun q => q.elim (fun h => absurd h.1 (nn rfl)) (fun q => q.elim (fun h => absurd h.1 (nn rfl)) (fun q => q.elim (fun h => absurd h.1 (pn0 hA rfl)) (fun q => q.elim (fun h => absurd h (pn hA rfl rfl)) (fun h => absurd h (pn hA rfl rfl)))))))))))).trans (hF j)) (fun j => ((hF_105 43 j (fun q => q.elim (fun h => absurd h.1 (nn rfl)) (fun q => q.elim (fun h => absurd h.1 (nn rfl)) (fun h => absurd h.1 (nn rfl))))).trans ((hF_86 43 j (fun h => absurd h.1 (nn rfl))).trans (hFc 43 j (fun q => q.elim (fun h => absurd h.1 (nn rfl)) (fun q => q.elim (fun h => absurd h.1 (nn rfl)) (fun q => q.elim (fun h => absurd h.1 (nn rfl)) (fun h => absurd h (nn rfl)))))))).trans (hH j)) hU (rt_fr hR_107 (up_c (pn hA rfl rfl)) (up_c (pn hA rfl rfl)) (up_c (pn hA rfl rfl)) (rfl) (rfl) (rfl)) hG_74 (fun c_136 hI_137 hF_138 hR_140 h_141 => ?_))
            refine bk_inl ?_
            have h_142 := ir_1_2 hI_72
            refine q_aload_n rfl rfl ?_
            refine v_cv rfl rfl rfl rfl (by decide) ⟨⟨rfl, rfl⟩, by decide, rfl⟩ (Nat.le_of_ble_eq_true rfl) (Nat.le_of_ble_eq_true rfl) ?_
            refine q_aload_n rfl rfl ?_
            have h_143 := ir_41_5 hI_137
            have h_144 := ir_1_5 hI_72
            have h_145 := ir_41_4 hI_137
            have h_146 := ir_41_6 hI_137
            have h_147 := rt_ok hR_140 (by omega)
            have hro_hR_140 := rt_ok hR_140 (by omega)
            refine v_gi (z := 5) (v := (-1)) rfl rfl rfl (by decide) rfl rfl hro_hR_140.2.1 ?_
            refine q_iconst rfl ?_
            refine v_ic_ne_f (t := 12) rfl (by decide) (by decide) ?_
            refine q_iconst rfl ?_
            refine q_goto (t := 13) rfl (by decide) ?_
            refine v_zret rfl rfl (by decide) ?_
            refine bk_inl ?_
            refine v_if_ne_t (t := 89) rfl (by decide) (by decide) ?_
            refine q_aload_n rfl rfl ?_
            refine v_gr (t := 61) rfl rfl rfl (by decide) rfl ?_
            refine q_iload_n rfl rfl ?_
            refine q_iload rfl rfl ?_
            refine v_is rfl rfl (by decide) (by decide) (by omega) ?_
            refine v_iinc (v := v + 1) rfl rfl (by decide) (by omega) ?_
            refine q_goto (t := 22) rfl (by decide) ?_
            have hI_148 := iw_61 (j := v) (v := y_65) hI_137 ⟨by omega, by omega⟩
            refine Wp_ls [(0, .ref 41), (1, vi a1), (2, vi (v + 1))] (lsub_cons rfl (lsub_cons rfl (lsub_cons rfl lsub_nil))) ?_
            have hr_149 : ∀ j : Int, 0 ≤ j → j < v + 1 → 0 ≤ c_71 (A + 5) j ∧ c_71 (A + 5) j ≤ 3 := by
              intro j hj1 hj2
              by_cases e9 : j = v
              · have q9 : c_71 (A + 5) j = y_65 := (hF_73 (A + 5) j (by omega)).trans (up_e e9)
                rw [q9]
                omega
              · have q9 : c_71 (A + 5) j = m2 (A + 5) j := (hF_73 (A + 5) j (by omega)).trans ((up_n e9).trans ((hF_64 (A + 5) j (by omega)).trans ((hF_55 (A + 5) j (by omega)).trans (hF_19 (A + 5) j (by omega)))))
                rw [q9]
                exact hx0 j hj1 (by omega)
            exact ih (up c_136 61 v y_65) c_71 (v + 1) (v + 1) (c_71 1 2) hI_148 (fun a j hm => (up_b (Decidable.or_iff_not_imp_left.mpr (fun h1 h2 => hm (Or.inr (Or.inr (Or.inr (Decidable.not_not.mp h1))))))).trans ((hF_138 a j (fun q => q.elim (fun h => hm (Or.inl h)) (fun q => q.elim (fun h => hm (Or.inr (Or.inl h))) (fun h => hm (Or.inr (Or.inr (Or.inl h))))))).trans ((hF_105 a j (fun q => q.elim (fun h => hm (Or.inl h)) (fun q => q.elim (fun h => hm (Or.inr (Or.inl h))) (fun h => hm (Or.inr (Or.inr (Or.inl h))))))).trans ((hF_86 a j (fun h => hm (Or.inl h))).trans (hFc a j (fun q => q.elim (fun h => hm (Or.inl h)) (fun q => q.elim (fun h => hm (Or.inr (Or.inl h))) (fun q => q.elim (fun h => hm (Or.inr (Or.inr (Or.inl h)))) (fun h => hm (Or.inr (Or.inr (Or.inr h)))))))))))) hI_72 (fun a j hm => (hF_73 a j (fun q => q.elim (fun h => hm (Or.inl h)) (fun q => q.elim (fun h => hm (Or.inr (Or.inl h))) (fun h => hm (Or.inr (Or.inr (Or.inl h))))))).trans ((up_b (Decidable.or_iff_not_imp_left.mpr (fun h1 h2 => hm (Or.inr (Or.inr (Or.inr (Or.inr (Or.inr (Decidable.not_not.mp h1))))))))).trans ((hF_64 a j (fun q => q.elim (fun h => hm (Or.inl h)) (fun q => q.elim (fun h => hm (Or.inr (Or.inl h))) (fun h => hm (Or.inr (Or.inr (Or.inl h))))))).trans ((hF_55 a j (fun h => hm (Or.inl h))).trans ((hF_19 a j (fun h => hm (Or.inl h))).trans (hFm a j (fun q => q.elim (fun h => hm (Or.inl h)) (fun q => q.elim (fun h => hm (Or.inr (Or.inl h))) (fun q => q.elim (fun h => hm (Or.inr (Or.inr (Or.inl h)))) (fun q => q.elim (fun h => hm (Or.inr (Or.inr (Or.inr (Or.inl h))))) (fun q => q.elim (fun h => hm (Or.inr (Or.inr (Or.inr (Or.inr (Or.inl h)))))) (fun h => hm (Or.inr (Or.inr (Or.inr (Or.inr (Or.inr h))))))))))))))))) ⟨by omega, by omega⟩ ⟨by omega, by omega⟩ ⟨by omega, by omega⟩ (rfl) ((((up_c (nn rfl))).trans (hro_hR_140.2.2.1))) ((show _ = c_71 1 4 from rfl).trans (by omega)) ((((up_c (nn rfl))).trans (hro_hR_140.2.1))) ((show _ = c_71 1 5 from rfl).trans (by omega)) hr_149 (by omega) hG_77 (by omega)
        · skip
          refine q_iload_n rfl rfl ?_
          refine v_bip rfl (by decide) ?_
          refine v_ic_gt_f (t := 75) rfl (by decide) (by omega) ?_
          refine q_aload_n rfl rfl ?_
          refine v_cv rfl rfl rfl rfl (by decide) ⟨⟨rfl, rfl⟩, by decide, rfl⟩ (Nat.le_of_ble_eq_true rfl) (Nat.le_of_ble_eq_true rfl) ?_
          refine q_aload_n rfl rfl ?_
          refine v_cv rfl rfl rfl rfl (by decide) ⟨⟨rfl, rfl⟩, by decide, rfl⟩ (Nat.le_of_ble_eq_true rfl) (Nat.le_of_ble_eq_true rfl) ?_
          refine q_aload_n rfl rfl ?_
          refine v_gi (z := 4) (v := c_71 1 4) rfl rfl rfl (by decide) rfl rfl rfl ?_
          refine v_if_ne_t (t := 11) rfl (by decide) (by omega) ?_
          refine q_iconst rfl ?_
          refine v_zret rfl rfl (by decide) ?_
          refine bk_inl ?_
          refine v_if_eq_t (t := 22) rfl (by decide) (by decide) ?_
          refine q_iconst rfl ?_
          refine v_zret rfl rfl (by decide) ?_
          refine bk_inl ?_
          refine v_if_eq_t (t := 75) rfl (by decide) (by decide) ?_
          refine q_aload_n rfl rfl ?_
          refine v_cv rfl rfl rfl rfl (by decide) ⟨⟨rfl, rfl⟩, by decide, rfl⟩ (Nat.le_of_ble_eq_true rfl) (Nat.le_of_ble_eq_true rfl) ?_
          refine q_aload_n rfl rfl ?_
          refine v_gi (z := 4) (v := c_71 1 4) rfl rfl rfl (by decide) rfl rfl rfl ?_
          refine v_if_ne_t (t := 11) rfl (by decide) (by omega) ?_
          refine q_iconst rfl ?_
          refine v_zret rfl rfl (by decide) ?_
          refine bk_inl ?_
          refine v_if_eq_t (t := 102) rfl (by decide) (by decide) ?_
          refine q_vret rfl rfl ?_
          intro hE_150
          have hW : Wd P Q P P c_71 = Wd P Q P P m9 := (Prod.mk.inj (Prod.mk.inj hE_150).2).1
          have h_151 := ir_1_4 hJ9
          have h_152 : m9 1 4 = c_71 1 4 := wd_fv (z := 4) 4 rfl hW rfl rfl rfl rfl (by decide) rfl ⟨by omega, by omega⟩ ⟨by omega, by omega⟩
          have h_153 := ir_1_2 hI_72
          have h_154 := ir_1_2 hJ9
          have h_155 : m9 1 2 = c_71 1 2 := wd_fv (z := 2) 2 rfl hW rfl rfl rfl rfl (by decide) rfl ⟨by omega, by omega⟩ ⟨by omega, by omega⟩
          have h_156 := ir_1_5 hI_72
          have h_157 := ir_1_5 hJ9
          have h_158 : m9 1 5 = c_71 1 5 := wd_fv (z := 5) 5 rfl hW rfl rfl rfl rfl (by decide) rfl ⟨by omega, by omega⟩ ⟨by omega, by omega⟩
          have h_159 := ir_p0_4 hJ2 hA
          have kn_160 : Hid (c_17 A 4 = m2 A 4) := hF_19 A 4 (fun h => absurd h.1 (np0 hA rfl))
          have kn_161 : Hid (c_53 A 4 = m2 A 4) := (hF_55 A 4 (fun h => absurd h.1 (np0 hA rfl))).trans (hid kn_160)
          have kn_162 : Hid (c_62 A 4 = m2 A 4) := (hF_64 A 4 (fun q => q.elim (fun h => absurd h.1 (np0 hA rfl)) (fun q => q.elim (fun h => absurd h.1 (np0 hA rfl)) (fun h => absurd h.1 (np0 hA rfl))))).trans (hid kn_161)
          have kn_163 : Hid (c_71 A 4 = m2 A 4) := (hF_73 A 4 (fun q => q.elim (fun h => absurd h.1 (np0 hA rfl)) (fun q => q.elim (fun h => absurd h.1 (np0 hA rfl)) (fun h => absurd h.1 (np0 hA rfl))))).trans ((up_c (p0p rfl)).trans (hid kn_162))
          have h_164 := ir_p0_4 hJ9 hA
          have h_165 : m9 A 4 = m2 A 4 := wd_fv (z := 4) 4 rfl hW (ck_p0 hA) (ck_p0 hA) rfl rfl (by omega) (hid kn_163) ⟨by omega, by omega⟩ ⟨by omega, by omega⟩
          refine q_aload_n rfl rfl ?_
          refine v_cv rfl rfl rfl rfl (by decide) ⟨⟨rfl, rfl⟩, by decide, rfl⟩ (Nat.le_of_ble_eq_true rfl) (Nat.le_of_ble_eq_true rfl) ?_
          refine q_aload_n rfl rfl ?_
          refine v_gi (z := 5) (v := (-1)) rfl rfl rfl (by decide) rfl rfl (hc_1) ?_
          refine q_iconst rfl ?_
          refine v_ic_ne_f (t := 12) rfl (by decide) (by decide) ?_
          refine q_iconst rfl ?_
          refine q_goto (t := 13) rfl (by decide) ?_
          refine v_zret rfl rfl (by decide) ?_
          refine bk_inl ?_
          refine v_if_eq_f (t := 103) rfl (by decide) (by decide) ?_
          refine q_aload_n rfl rfl ?_
          refine v_cv rfl rfl rfl rfl (by decide) ⟨⟨rfl, rfl⟩, by decide, rfl⟩ (Nat.le_of_ble_eq_true rfl) (Nat.le_of_ble_eq_true rfl) ?_
          refine q_aload_n rfl rfl ?_
          have kn_166 : Hid (c2 41 3 = e1) := (hFc 41 3 (fun q => q.elim (fun h => absurd h.2 (ni rfl)) (fun q => q.elim (fun h => absurd h.2 (ni rfl)) (fun q => q.elim (fun h => absurd h.2 (ni rfl)) (fun h => absurd h (nn rfl)))))).trans (hr_e1)
          have h_167 : -2147483648 ≤ (H (nx F e1 a)) ∧ (H (nx F e1 a)) ≤ 2147483647 := by rw [← hH (nx F e1 a)]; exact ir_43 hI (nx F e1 a)
          have h_168 := hU (nx F e1 a) (by omega) (by omega)
          have h_169 := hb_or (b := H) (e := e1) (r := (nx F e1 a))
          have h_170 := hb_bd (b := H) (e := e1) (r := (nx F e1 a)) (lo := -2147483648) (hi := 2147483647) ⟨by omega, by omega⟩ (by decide)
          refine v_cv rfl rfl rfl rfl (by decide) ⟨⟨rfl, rfl⟩, by decide, rfl⟩ (Nat.le_of_ble_eq_true rfl) (Nat.le_of_ble_eq_true rfl) (f_154 (e1 := e1) (a9 := a) (B := H) (r8 := (nx F e1 a)) (r := (hb H e1 (nx F e1 a))) hI2 ((hid kn_166)) ((hr_a)) (fun j => (hFc 43 j (fun q => q.elim (fun h => absurd h.1 (nn rfl)) (fun q => q.elim (fun h => absurd h.1 (nn rfl)) (fun q => q.elim (fun h => absurd h.1 (nn rfl)) (fun h => absurd h (nn rfl)))))).trans (hH j)) ((nx_tr hU (by omega) (by omega)).trans (rfl)) rfl (fun c_171 hI_172 hF_173 h_174 => ?_))
          refine bk_inl ?_
          refine q_pop rfl rfl ?_
          refine q_aload_n rfl rfl ?_
          refine v_gi (z := 4) (v := (nx F e1 a)) rfl rfl rfl (by decide) rfl rfl (h_174) ?_
          refine q_aload_n rfl rfl ?_
          have kn_175 : Hid (c_171 41 3 = e1) := (hF_173 41 3 (fun h => absurd h.2 (ni rfl))).trans (hid kn_166)
          refine v_gi (z := 3) (v := e1) rfl rfl rfl (by decide) rfl rfl (hid kn_175) ?_
          refine v_ic_ge_f (t := 20) rfl (by decide) (by omega) ?_
          refine q_iconst rfl ?_
          refine q_goto (t := 21) rfl (by decide) ?_
          refine v_zret rfl rfl (by decide) ?_
          refine bk_inl ?_
          refine v_if_eq_f (t := 103) rfl (by decide) (by decide) ?_
          refine q_aload_n rfl rfl ?_
          refine v_gi (z := 4) (v := (nx F e1 a)) rfl rfl rfl (by decide) rfl rfl (h_174) ?_
          refine q_istore_n rfl (by decide) ?_
          refine q_aload_n rfl rfl ?_
          refine q_iconst rfl ?_
          refine q_aload_n rfl rfl ?_
          have kn_176 : Hid (c2 41 22 = si) := (hFc 41 22 (fun q => q.elim (fun h => absurd h.2 (ni rfl)) (fun q => q.elim (fun h => absurd h.2 (ni rfl)) (fun q => q.elim (fun h => absurd h.2 (ni rfl)) (fun h => absurd h (nn rfl)))))).trans (hr_si)
          have kn_177 : Hid (c_171 41 22 = si) := (hF_173 41 22 (fun h => absurd h.2 (ni rfl))).trans (hid kn_176)
          refine v_gi (z := 22) (v := si) rfl rfl rfl (by decide) rfl rfl (hid kn_177) ?_
          refine q_iconst rfl ?_
          refine v_isub (v := si - 1) rfl (by omega) ?_
          have kn_178 : Hid (c_53 1 1 = e1) := (hF_55 1 1 (fun h => absurd h.2 (ni rfl))).trans (hid kn_21)
          have h_179 : c_53 1 4 = 0 := (hid kn_61)
          have h_180 : c_53 1 2 = (nx F e1 a) := (hz_56)
          have kn_181 : Hid (c_17 1 5 = (-1)) := (hF_19 1 5 (fun h => absurd h.2 (ni rfl))).trans (hc_2)
          have kn_182 : Hid (c_53 1 5 = (-1)) := (hF_55 1 5 (fun h => absurd h.2 (ni rfl))).trans (hid kn_181)
          have h_183 : c_53 1 5 = (-1) := (hid kn_182)
          have kn_184 : Hid (c_171 41 5 = (-1)) := (hF_173 41 5 (fun h => absurd h.2 (ni rfl))).trans (hc_1)
          have h_185 : c_171 41 5 = (-1) := (hid kn_184)
          have h_186 : c_171 41 4 = (nx F e1 a) := (h_174)
          have h_187 := ir_41_6 hI2
          have kn_188 : Hid (c_171 41 6 = c2 41 6) := hF_173 41 6 (fun h => absurd h.2 (ni rfl))
          have h_189 : c_171 41 6 = c2 41 6 := (hid kn_188)
          refine v_cv rfl rfl rfl rfl (by decide) ⟨⟨rfl, rfl⟩, by decide, rfl⟩ (Nat.le_of_ble_eq_true rfl) (Nat.le_of_ble_eq_true rfl) (L_8 (m := c_53) (a2 := si - 1) (yg := y_65) (e1 := e1) (a9 := (nx F e1 a)) (F := F) (H := H) hI_172 hI_54 hI_63 (show (-1) ≤ si - 1 ∧ si - 1 ≤ 9999 from by omega) ⟨by omega, by omega⟩ ((hid kn_178)) ((hid kn_175)) ((hz_56)) (fun j => ((hF_55 2 j (fun h => absurd h.1 (nn rfl))).trans ((hF_19 2 j (fun h => absurd h.1 (nn rfl))).trans (hFm 2 j (fun q => q.elim (fun h => absurd h.1 (nn rfl)) (fun q => q.elim (fun h => absurd h.1 (nn rfl)) (fun q => q.elim (fun h => absurd h.1 (nn rfl)) (fun q => q.elim (fun h => absurd h.1 (pn0 hA rfl)) (fun q => q.elim (fun h => absurd h (pn hA rfl rfl)) (fun h => absurd h (pn hA rfl rfl)))))))))).trans (hF j)) (fun j => ((hF_173 43 j (fun h => absurd h.1 (nn rfl))).trans (hFc 43 j (fun q => q.elim (fun h => absurd h.1 (nn rfl)) (fun q => q.elim (fun h => absurd h.1 (nn rfl)) (fun q => q.elim (fun h => absurd h.1 (nn rfl)) (fun h => absurd h (nn rfl))))))).trans (hH j)) hU (by unfold Rt; omega) hG_67 (fun c_190 y_193 hI_191 hF_192 hy_193 hR_194 h_195 h_196 => ?_))
          refine bk_inl ?_
          have hs_197 := h_195.symm
          subst hs_197
          have h_198 := ir_1_2 hI_63
          refine q_istore rfl (by decide) ?_
          refine q_aload_n rfl rfl ?_
          refine v_cv rfl rfl rfl rfl (by decide) ⟨⟨rfl, rfl⟩, by decide, rfl⟩ (Nat.le_of_ble_eq_true rfl) (Nat.le_of_ble_eq_true rfl) ?_
          refine q_aload_n rfl rfl ?_
          have h_199 := ir_41_5 hI_191
          have h_200 := ir_1_5 hI_63
          have h_201 := ir_41_4 hI_191
          have h_202 := ir_41_6 hI_191
          have h_203 := rt_or hR_194
          refine v_gi (z := 5) (v := c_190 41 5) rfl rfl rfl (by decide) rfl rfl rfl ?_
          refine q_iconst rfl ?_
          by_cases h_204 : c_190 41 5 ≠ (-1)
          · refine v_ic_ne_t (t := 12) rfl (by decide) (by omega) ?_
            refine q_iconst rfl ?_
            refine v_zret rfl rfl (by decide) ?_
            refine bk_inl ?_
            refine v_if_eq_t (t := 73) rfl (by decide) (by decide) ?_
            refine q_aload_n rfl rfl ?_
            refine v_bip rfl (by decide) ?_
            have kn_205 : Hid (c_62 1 1 = e1) := (hF_64 1 1 (fun q => q.elim (fun h => absurd h.2 (ni rfl)) (fun q => q.elim (fun h => absurd h.2 (ni rfl)) (fun h => absurd h.2 (ni rfl))))).trans (hid kn_178)
            have kn_206 : Hid (c_190 41 3 = e1) := (hF_192 41 3 (fun q => q.elim (fun h => absurd h.2 (ni rfl)) (fun q => q.elim (fun h => absurd h.2 (ni rfl)) (fun h => absurd h.2 (ni rfl))))).trans (hid kn_175)
            refine v_cv rfl rfl rfl rfl (by decide) ⟨⟨rfl, rfl⟩, by decide, rfl⟩ (Nat.le_of_ble_eq_true rfl) (Nat.le_of_ble_eq_true rfl) (L_11_9 (m := up c_62 (A + 5) v y_65) (e1 := e1) (a9 := c_62 1 2) (F := F) (H := H) hI_191 hI_70 hI_72 (((up_c (pn hA rfl rfl)).trans (hid kn_205))) ((hid kn_206)) ((up_c (pn hA rfl rfl))) (fun j => ((up_c (pn hA rfl rfl)).trans ((hF_64 2 j (fun q => q.elim (fun h => absurd h.1 (nn rfl)) (fun q => q.elim (fun h => absurd h.1 (nn rfl)) (fun h => absurd h.1 (nn rfl))))).trans ((hF_55 2 j (fun h => absurd h.1 (nn rfl))).trans ((hF_19 2 j (fun h => absurd h.1 (nn rfl))).trans (hFm 2 j (fun q => q.elim (fun h => absurd h.1 (nn rfl)) (fun q => q.elim (fun h => absurd h.1 (nn rfl)) (fun q => q.elim (fun h => absurd h.1 (nn rfl)) (fun q => q.elim (fun h => absurd h.1 (pn0 hA rfl)) (fun q => q.elim (fun h => absurd h (pn hA rfl rfl)) (fun h => absurd h (pn hA rfl rfl)))))))))))).trans (hF j)) (fun j => ((hF_192 43 j (fun q => q.elim (fun h => absurd h.1 (nn rfl)) (fun q => q.elim (fun h => absurd h.1 (nn rfl)) (fun h => absurd h.1 (nn rfl))))).trans ((hF_173 43 j (fun h => absurd h.1 (nn rfl))).trans (hFc 43 j (fun q => q.elim (fun h => absurd h.1 (nn rfl)) (fun q => q.elim (fun h => absurd h.1 (nn rfl)) (fun q => q.elim (fun h => absurd h.1 (nn rfl)) (fun h => absurd h (nn rfl)))))))).trans (hH j)) hU (rt_fr hR_194 (up_c (pn hA rfl rfl)) (up_c (pn hA rfl rfl)) (up_c (pn hA rfl rfl)) (rfl) (rfl) (rfl)) hG_74 (fun c_207 hI_208 hF_209 hR_211 h_212 => ?_))
            refine bk_inl ?_
            refine q_aload_n rfl rfl ?_
            refine v_cv rfl rfl rfl rfl (by decide) ⟨⟨rfl, rfl⟩, by decide, rfl⟩ (Nat.le_of_ble_eq_true rfl) (Nat.le_of_ble_eq_true rfl) ?_
            refine q_aload_n rfl rfl ?_
            have h_213 := ir_41_5 hI_208
            have h_214 := ir_41_4 hI_208
            have h_215 := ir_41_6 hI_208
            have h_216 := rt_bad hR_211 (by omega)
            have hrb_hR_211 := rt_bad hR_211 (by omega)
            refine v_gi (z := 5) (v := c_71 1 5) rfl rfl rfl (by decide) rfl rfl hrb_hR_211.2.1 ?_
            refine q_iconst rfl ?_
            refine v_ic_ne_t (t := 12) rfl (by decide) (by omega) ?_
            refine q_iconst rfl ?_
            refine v_zret rfl rfl (by decide) ?_
            refine bk_inl ?_
            refine v_if_ne_f (t := 89) rfl (by decide) (by decide) ?_
            refine q_goto (t := 103) rfl (by decide) ?_
            refine Wp_ls [(0, .ref 41), (1, vi a1), (2, vi v)] (lsub_cons rfl (lsub_cons rfl (lsub_cons rfl lsub_nil))) ?_
            have h_217 : c_207 41 5 = c_71 1 5 := hrb_hR_211.2.1
            have h_218 : c_207 41 6 = c_71 1 4 := hrb_hR_211.2.2.2
            exact K c_207 v hI_208 (fun a j hm => (hF_209 a j (fun q => q.elim (fun h => hm (Or.inl h)) (fun q => q.elim (fun h => hm (Or.inr (Or.inl h))) (fun h => hm (Or.inr (Or.inr (Or.inl h))))))).trans ((hF_192 a j (fun q => q.elim (fun h => hm (Or.inl h)) (fun q => q.elim (fun h => hm (Or.inr (Or.inl h))) (fun h => hm (Or.inr (Or.inr (Or.inl h))))))).trans ((hF_173 a j (fun h => hm (Or.inl h))).trans (hFc a j (fun q => q.elim (fun h => hm (Or.inl h)) (fun q => q.elim (fun h => hm (Or.inr (Or.inl h))) (fun q => q.elim (fun h => hm (Or.inr (Or.inr (Or.inl h)))) (fun h => hm (Or.inr (Or.inr (Or.inr h))))))))))) ⟨by omega, by omega⟩ (by unfold Rt; omega) (by omega)
          · refine v_ic_ne_f (t := 12) rfl (by decide) (by omega) ?_
            refine q_iconst rfl ?_
            refine q_goto (t := 13) rfl (by decide) ?_
            refine v_zret rfl rfl (by decide) ?_
            refine bk_inl ?_
            refine v_if_eq_f (t := 73) rfl (by decide) (by decide) ?_
            refine q_iload_n rfl rfl ?_
            refine v_bip rfl (by decide) ?_
            refine v_ic_ne_t (t := 73) rfl (by decide) (by omega) ?_
            refine q_aload_n rfl rfl ?_
            refine v_bip rfl (by decide) ?_
            have kn_219 : Hid (c_62 1 1 = e1) := (hF_64 1 1 (fun q => q.elim (fun h => absurd h.2 (ni rfl)) (fun q => q.elim (fun h => absurd h.2 (ni rfl)) (fun h => absurd h.2 (ni rfl))))).trans (hid kn_178)
            have kn_220 : Hid (c_190 41 3 = e1) := (hF_192 41 3 (fun q => q.elim (fun h => absurd h.2 (ni rfl)) (fun q => q.elim (fun h => absurd h.2 (ni rfl)) (fun h => absurd h.2 (ni rfl))))).trans (hid kn_175)
            refine v_cv rfl rfl rfl rfl (by decide) ⟨⟨rfl, rfl⟩, by decide, rfl⟩ (Nat.le_of_ble_eq_true rfl) (Nat.le_of_ble_eq_true rfl) (L_11_9 (m := up c_62 (A + 5) v y_65) (e1 := e1) (a9 := c_62 1 2) (F := F) (H := H) hI_191 hI_70 hI_72 (((up_c (pn hA rfl rfl)).trans (hid kn_219))) ((hid kn_220)) ((up_c (pn hA rfl rfl))) (fun j => ((up_c (pn hA rfl rfl)).trans ((hF_64 2 j (fun q => q.elim (fun h => absurd h.1 (nn rfl)) (fun q => q.elim (fun h => absurd h.1 (nn rfl)) (fun h => absurd h.1 (nn rfl))))).trans ((hF_55 2 j (fun h => absurd h.1 (nn rfl))).trans ((hF_19 2 j (fun h => absurd h.1 (nn rfl))).trans (hFm 2 j (fun q => q.elim (fun h => absurd h.1 (nn rfl)) (fun q => q.elim (fun h => absurd h.1 (nn rfl)) (fun q => q.elim (fun h => absurd h.1 (nn rfl)) (fun q => q.elim (fun h => absurd h.1 (pn0 hA rfl)) (fun q => q.elim (fun h => absurd h (pn hA rfl rfl)) (fun h => absurd h (pn hA rfl rfl)))))))))))).trans (hF j)) (fun j => ((hF_192 43 j (fun q => q.elim (fun h => absurd h.1 (nn rfl)) (fun q => q.elim (fun h => absurd h.1 (nn rfl)) (fun h => absurd h.1 (nn rfl))))).trans ((hF_173 43 j (fun h => absurd h.1 (nn rfl))).trans (hFc 43 j (fun q => q.elim (fun h => absurd h.1 (nn rfl)) (fun q => q.elim (fun h => absurd h.1 (nn rfl)) (fun q => q.elim (fun h => absurd h.1 (nn rfl)) (fun h => absurd h (nn rfl)))))))).trans (hH j)) hU (rt_fr hR_194 (up_c (pn hA rfl rfl)) (up_c (pn hA rfl rfl)) (up_c (pn hA rfl rfl)) (rfl) (rfl) (rfl)) hG_74 (fun c_221 hI_222 hF_223 hR_225 h_226 => ?_))
            refine bk_inl ?_
            refine q_aload_n rfl rfl ?_
            refine v_cv rfl rfl rfl rfl (by decide) ⟨⟨rfl, rfl⟩, by decide, rfl⟩ (Nat.le_of_ble_eq_true rfl) (Nat.le_of_ble_eq_true rfl) ?_
            refine q_aload_n rfl rfl ?_
            have h_227 := ir_41_5 hI_222
            have h_228 := ir_41_4 hI_222
            have h_229 := ir_41_6 hI_222
            have h_230 := rt_bad hR_225 (by omega)
            have hrb_hR_225 := rt_bad hR_225 (by omega)
            refine v_gi (z := 5) (v := c_71 1 5) rfl rfl rfl (by decide) rfl rfl hrb_hR_225.2.1 ?_
            refine q_iconst rfl ?_
            refine v_ic_ne_t (t := 12) rfl (by decide) (by omega) ?_
            refine q_iconst rfl ?_
            refine v_zret rfl rfl (by decide) ?_
            refine bk_inl ?_
            refine v_if_ne_f (t := 89) rfl (by decide) (by decide) ?_
            refine q_goto (t := 103) rfl (by decide) ?_
            refine Wp_ls [(0, .ref 41), (1, vi a1), (2, vi v)] (lsub_cons rfl (lsub_cons rfl (lsub_cons rfl lsub_nil))) ?_
            have h_231 : c_221 41 5 = c_71 1 5 := hrb_hR_225.2.1
            have h_232 : c_221 41 6 = c_71 1 4 := hrb_hR_225.2.2.2
            exact K c_221 v hI_222 (fun a j hm => (hF_223 a j (fun q => q.elim (fun h => hm (Or.inl h)) (fun q => q.elim (fun h => hm (Or.inr (Or.inl h))) (fun h => hm (Or.inr (Or.inr (Or.inl h))))))).trans ((hF_192 a j (fun q => q.elim (fun h => hm (Or.inl h)) (fun q => q.elim (fun h => hm (Or.inr (Or.inl h))) (fun h => hm (Or.inr (Or.inr (Or.inl h))))))).trans ((hF_173 a j (fun h => hm (Or.inl h))).trans (hFc a j (fun q => q.elim (fun h => hm (Or.inl h)) (fun q => q.elim (fun h => hm (Or.inr (Or.inl h))) (fun q => q.elim (fun h => hm (Or.inr (Or.inr (Or.inl h)))) (fun h => hm (Or.inr (Or.inr (Or.inr h))))))))))) ⟨by omega, by omega⟩ (by unfold Rt; omega) (by omega)
      · refine v_ic_ne_f (t := 51) rfl (by decide) (by omega) ?_
        refine q_aload_n rfl rfl ?_
        refine q_iconst rfl ?_
        refine q_iload rfl rfl ?_
        refine v_cv rfl rfl rfl rfl (by decide) ⟨⟨rfl, rfl⟩, by decide, rfl⟩ (Nat.le_of_ble_eq_true rfl) (Nat.le_of_ble_eq_true rfl) ?_
        refine q_aload_n rfl rfl ?_
        have h_233 := ir_1_4 hI_63
        refine v_gi (z := 4) (v := c_62 1 4) rfl rfl rfl (by decide) rfl rfl rfl ?_
        by_cases h_234 : c_62 1 4 ≠ 0
        · refine v_if_ne_t (t := 17) rfl (by decide) (by omega) ?_
          refine q_vret rfl rfl ?_
          refine bk_inl ?_
          refine q_goto (t := 63) rfl (by decide) ?_
          refine q_aload_n rfl rfl ?_
          refine q_ldc_s rfl rfl rfl (by decide) ?_
          refine v_cv rfl rfl rfl rfl (by decide) ⟨⟨rfl, rfl⟩, by decide, rfl⟩ (Nat.le_of_ble_eq_true rfl) (Nat.le_of_ble_eq_true rfl) ?_
          refine q_aload_n rfl rfl ?_
          refine v_cv rfl rfl rfl rfl (by decide) ⟨⟨rfl, rfl⟩, by decide, rfl⟩ (Nat.le_of_ble_eq_true rfl) (Nat.le_of_ble_eq_true rfl) ?_
          refine q_aload_n rfl rfl ?_
          refine v_gi (z := 4) (v := c_62 1 4) rfl rfl rfl (by decide) rfl rfl rfl ?_
          refine v_if_ne_t (t := 11) rfl (by decide) (by omega) ?_
          refine q_iconst rfl ?_
          refine v_zret rfl rfl (by decide) ?_
          refine bk_inl ?_
          refine v_if_eq_t (t := 25) rfl (by decide) (by decide) ?_
          refine q_vret rfl rfl ?_
          refine bk_inl ?_
          refine v_iinc (v := v + 1) rfl rfl (by decide) (by omega) ?_
          refine q_goto (t := 4) rfl (by decide) ?_
          refine q_iload_n rfl rfl ?_
          refine v_bip rfl (by decide) ?_
          refine v_ic_gt_t (t := 75) rfl (by decide) (by omega) ?_
          refine q_aload_n rfl rfl ?_
          refine v_cv rfl rfl rfl rfl (by decide) ⟨⟨rfl, rfl⟩, by decide, rfl⟩ (Nat.le_of_ble_eq_true rfl) (Nat.le_of_ble_eq_true rfl) ?_
          refine q_aload_n rfl rfl ?_
          refine v_gi (z := 4) (v := c_62 1 4) rfl rfl rfl (by decide) rfl rfl rfl ?_
          refine v_if_ne_t (t := 11) rfl (by decide) (by omega) ?_
          refine q_iconst rfl ?_
          refine v_zret rfl rfl (by decide) ?_
          refine bk_inl ?_
          refine v_if_eq_t (t := 102) rfl (by decide) (by decide) ?_
          refine q_vret rfl rfl ?_
          intro hE_235
          have hW : Wd P Q P P c_62 = Wd P Q P P m9 := (Prod.mk.inj (Prod.mk.inj hE_235).2).1
          have h_236 := ir_1_4 hJ9
          have h_237 : m9 1 4 = c_62 1 4 := wd_fv (z := 4) 4 rfl hW rfl rfl rfl rfl (by decide) rfl ⟨by omega, by omega⟩ ⟨by omega, by omega⟩
          have h_238 := ir_1_2 hI_63
          have h_239 := ir_1_2 hJ9
          have h_240 : m9 1 2 = c_62 1 2 := wd_fv (z := 2) 2 rfl hW rfl rfl rfl rfl (by decide) rfl ⟨by omega, by omega⟩ ⟨by omega, by omega⟩
          have h_241 := ir_1_5 hI_63
          have h_242 := ir_1_5 hJ9
          have h_243 : m9 1 5 = c_62 1 5 := wd_fv (z := 5) 5 rfl hW rfl rfl rfl rfl (by decide) rfl ⟨by omega, by omega⟩ ⟨by omega, by omega⟩
          have h_244 := ir_p0_4 hJ2 hA
          have kn_245 : Hid (c_17 A 4 = m2 A 4) := hF_19 A 4 (fun h => absurd h.1 (np0 hA rfl))
          have kn_246 : Hid (c_53 A 4 = m2 A 4) := (hF_55 A 4 (fun h => absurd h.1 (np0 hA rfl))).trans (hid kn_245)
          have kn_247 : Hid (c_62 A 4 = m2 A 4) := (hF_64 A 4 (fun q => q.elim (fun h => absurd h.1 (np0 hA rfl)) (fun q => q.elim (fun h => absurd h.1 (np0 hA rfl)) (fun h => absurd h.1 (np0 hA rfl))))).trans (hid kn_246)
          have h_248 := ir_p0_4 hJ9 hA
          have h_249 : m9 A 4 = m2 A 4 := wd_fv (z := 4) 4 rfl hW (ck_p0 hA) (ck_p0 hA) rfl rfl (by omega) (hid kn_247) ⟨by omega, by omega⟩ ⟨by omega, by omega⟩
          refine q_aload_n rfl rfl ?_
          refine v_cv rfl rfl rfl rfl (by decide) ⟨⟨rfl, rfl⟩, by decide, rfl⟩ (Nat.le_of_ble_eq_true rfl) (Nat.le_of_ble_eq_true rfl) ?_
          refine q_aload_n rfl rfl ?_
          refine v_gi (z := 5) (v := (-1)) rfl rfl rfl (by decide) rfl rfl (hc_1) ?_
          refine q_iconst rfl ?_
          refine v_ic_ne_f (t := 12) rfl (by decide) (by decide) ?_
          refine q_iconst rfl ?_
          refine q_goto (t := 13) rfl (by decide) ?_
          refine v_zret rfl rfl (by decide) ?_
          refine bk_inl ?_
          refine v_if_eq_f (t := 103) rfl (by decide) (by decide) ?_
          refine q_aload_n rfl rfl ?_
          refine v_cv rfl rfl rfl rfl (by decide) ⟨⟨rfl, rfl⟩, by decide, rfl⟩ (Nat.le_of_ble_eq_true rfl) (Nat.le_of_ble_eq_true rfl) ?_
          refine q_aload_n rfl rfl ?_
          have kn_250 : Hid (c2 41 3 = e1) := (hFc 41 3 (fun q => q.elim (fun h => absurd h.2 (ni rfl)) (fun q => q.elim (fun h => absurd h.2 (ni rfl)) (fun q => q.elim (fun h => absurd h.2 (ni rfl)) (fun h => absurd h (nn rfl)))))).trans (hr_e1)
          have h_251 : -2147483648 ≤ (H (nx F e1 a)) ∧ (H (nx F e1 a)) ≤ 2147483647 := by rw [← hH (nx F e1 a)]; exact ir_43 hI (nx F e1 a)
          have h_252 := hU (nx F e1 a) (by omega) (by omega)
          have h_253 := hb_or (b := H) (e := e1) (r := (nx F e1 a))
          have h_254 := hb_bd (b := H) (e := e1) (r := (nx F e1 a)) (lo := -2147483648) (hi := 2147483647) ⟨by omega, by omega⟩ (by decide)
          refine v_cv rfl rfl rfl rfl (by decide) ⟨⟨rfl, rfl⟩, by decide, rfl⟩ (Nat.le_of_ble_eq_true rfl) (Nat.le_of_ble_eq_true rfl) (f_154 (e1 := e1) (a9 := a) (B := H) (r8 := (nx F e1 a)) (r := (hb H e1 (nx F e1 a))) hI2 ((hid kn_250)) ((hr_a)) (fun j => (hFc 43 j (fun q => q.elim (fun h => absurd h.1 (nn rfl)) (fun q => q.elim (fun h => absurd h.1 (nn rfl)) (fun q => q.elim (fun h => absurd h.1 (nn rfl)) (fun h => absurd h (nn rfl)))))).trans (hH j)) ((nx_tr hU (by omega) (by omega)).trans (rfl)) rfl (fun c_255 hI_256 hF_257 h_258 => ?_))
          refine bk_inl ?_
          refine q_pop rfl rfl ?_
          refine q_aload_n rfl rfl ?_
          refine v_gi (z := 4) (v := (nx F e1 a)) rfl rfl rfl (by decide) rfl rfl (h_258) ?_
          refine q_aload_n rfl rfl ?_
          have kn_259 : Hid (c_255 41 3 = e1) := (hF_257 41 3 (fun h => absurd h.2 (ni rfl))).trans (hid kn_250)
          refine v_gi (z := 3) (v := e1) rfl rfl rfl (by decide) rfl rfl (hid kn_259) ?_
          refine v_ic_ge_f (t := 20) rfl (by decide) (by omega) ?_
          refine q_iconst rfl ?_
          refine q_goto (t := 21) rfl (by decide) ?_
          refine v_zret rfl rfl (by decide) ?_
          refine bk_inl ?_
          refine v_if_eq_f (t := 103) rfl (by decide) (by decide) ?_
          refine q_aload_n rfl rfl ?_
          refine v_gi (z := 4) (v := (nx F e1 a)) rfl rfl rfl (by decide) rfl rfl (h_258) ?_
          refine q_istore_n rfl (by decide) ?_
          refine q_aload_n rfl rfl ?_
          refine q_iconst rfl ?_
          refine q_aload_n rfl rfl ?_
          have kn_260 : Hid (c2 41 22 = si) := (hFc 41 22 (fun q => q.elim (fun h => absurd h.2 (ni rfl)) (fun q => q.elim (fun h => absurd h.2 (ni rfl)) (fun q => q.elim (fun h => absurd h.2 (ni rfl)) (fun h => absurd h (nn rfl)))))).trans (hr_si)
          have kn_261 : Hid (c_255 41 22 = si) := (hF_257 41 22 (fun h => absurd h.2 (ni rfl))).trans (hid kn_260)
          refine v_gi (z := 22) (v := si) rfl rfl rfl (by decide) rfl rfl (hid kn_261) ?_
          refine q_iconst rfl ?_
          refine v_isub (v := si - 1) rfl (by omega) ?_
          have kn_262 : Hid (c_53 1 1 = e1) := (hF_55 1 1 (fun h => absurd h.2 (ni rfl))).trans (hid kn_21)
          have h_263 : c_53 1 4 = 0 := (hid kn_61)
          have h_264 : c_53 1 2 = (nx F e1 a) := (hz_56)
          have kn_265 : Hid (c_17 1 5 = (-1)) := (hF_19 1 5 (fun h => absurd h.2 (ni rfl))).trans (hc_2)
          have kn_266 : Hid (c_53 1 5 = (-1)) := (hF_55 1 5 (fun h => absurd h.2 (ni rfl))).trans (hid kn_265)
          have h_267 : c_53 1 5 = (-1) := (hid kn_266)
          have kn_268 : Hid (c_255 41 5 = (-1)) := (hF_257 41 5 (fun h => absurd h.2 (ni rfl))).trans (hc_1)
          have h_269 : c_255 41 5 = (-1) := (hid kn_268)
          have h_270 : c_255 41 4 = (nx F e1 a) := (h_258)
          have h_271 := ir_41_6 hI2
          have kn_272 : Hid (c_255 41 6 = c2 41 6) := hF_257 41 6 (fun h => absurd h.2 (ni rfl))
          have h_273 : c_255 41 6 = c2 41 6 := (hid kn_272)
          refine v_cv rfl rfl rfl rfl (by decide) ⟨⟨rfl, rfl⟩, by decide, rfl⟩ (Nat.le_of_ble_eq_true rfl) (Nat.le_of_ble_eq_true rfl) (L_8 (m := c_53) (a2 := si - 1) (yg := y_65) (e1 := e1) (a9 := (nx F e1 a)) (F := F) (H := H) hI_256 hI_54 hI_63 (show (-1) ≤ si - 1 ∧ si - 1 ≤ 9999 from by omega) ⟨by omega, by omega⟩ ((hid kn_262)) ((hid kn_259)) ((hz_56)) (fun j => ((hF_55 2 j (fun h => absurd h.1 (nn rfl))).trans ((hF_19 2 j (fun h => absurd h.1 (nn rfl))).trans (hFm 2 j (fun q => q.elim (fun h => absurd h.1 (nn rfl)) (fun q => q.elim (fun h => absurd h.1 (nn rfl)) (fun q => q.elim (fun h => absurd h.1 (nn rfl)) (fun q => q.elim (fun h => absurd h.1 (pn0 hA rfl)) (fun q => q.elim (fun h => absurd h (pn hA rfl rfl)) (fun h => absurd h (pn hA rfl rfl)))))))))).trans (hF j)) (fun j => ((hF_257 43 j (fun h => absurd h.1 (nn rfl))).trans (hFc 43 j (fun q => q.elim (fun h => absurd h.1 (nn rfl)) (fun q => q.elim (fun h => absurd h.1 (nn rfl)) (fun q => q.elim (fun h => absurd h.1 (nn rfl)) (fun h => absurd h (nn rfl))))))).trans (hH j)) hU (by unfold Rt; omega) hG_67 (fun c_274 y_277 hI_275 hF_276 hy_277 hR_278 h_279 h_280 => ?_))
          refine bk_inl ?_
          have hs_281 := h_279.symm
          subst hs_281
          refine q_istore rfl (by decide) ?_
          refine q_aload_n rfl rfl ?_
          refine v_cv rfl rfl rfl rfl (by decide) ⟨⟨rfl, rfl⟩, by decide, rfl⟩ (Nat.le_of_ble_eq_true rfl) (Nat.le_of_ble_eq_true rfl) ?_
          refine q_aload_n rfl rfl ?_
          have h_282 := ir_41_5 hI_275
          have h_283 := ir_41_4 hI_275
          have h_284 := ir_41_6 hI_275
          have h_285 := rt_bad hR_278 (by omega)
          have hrb_hR_278 := rt_bad hR_278 (by omega)
          refine v_gi (z := 5) (v := c_62 1 5) rfl rfl rfl (by decide) rfl rfl hrb_hR_278.2.1 ?_
          refine q_iconst rfl ?_
          refine v_ic_ne_t (t := 12) rfl (by decide) (by omega) ?_
          refine q_iconst rfl ?_
          refine v_zret rfl rfl (by decide) ?_
          refine bk_inl ?_
          refine v_if_eq_t (t := 73) rfl (by decide) (by decide) ?_
          refine q_aload_n rfl rfl ?_
          refine v_bip rfl (by decide) ?_
          refine v_cv rfl rfl rfl rfl (by decide) ⟨⟨rfl, rfl⟩, by decide, rfl⟩ (Nat.le_of_ble_eq_true rfl) (Nat.le_of_ble_eq_true rfl) ?_
          refine q_aload_n rfl rfl ?_
          refine v_cv rfl rfl rfl rfl (by decide) ⟨⟨rfl, rfl⟩, by decide, rfl⟩ (Nat.le_of_ble_eq_true rfl) (Nat.le_of_ble_eq_true rfl) ?_
          refine q_aload_n rfl rfl ?_
          refine v_gi (z := 5) (v := c_62 1 5) rfl rfl rfl (by decide) rfl rfl hrb_hR_278.2.1 ?_
          refine q_iconst rfl ?_
          refine v_ic_ne_t (t := 12) rfl (by decide) (by omega) ?_
          refine q_iconst rfl ?_
          refine v_zret rfl rfl (by decide) ?_
          refine bk_inl ?_
          refine v_if_eq_t (t := 24) rfl (by decide) (by decide) ?_
          refine q_aload_n rfl rfl ?_
          refine v_cv rfl rfl rfl rfl (by decide) ⟨⟨rfl, rfl⟩, by decide, rfl⟩ (Nat.le_of_ble_eq_true rfl) (Nat.le_of_ble_eq_true rfl) ?_
          refine q_aload_n rfl rfl ?_
          refine v_gi (z := 5) (v := c_62 1 5) rfl rfl rfl (by decide) rfl rfl hrb_hR_278.2.1 ?_
          refine q_iconst rfl ?_
          refine v_ic_ne_t (t := 12) rfl (by decide) (by omega) ?_
          refine q_iconst rfl ?_
          refine v_zret rfl rfl (by decide) ?_
          refine bk_inl ?_
          refine v_if_eq_t (t := 41) rfl (by decide) (by decide) ?_
          refine q_vret rfl rfl ?_
          refine bk_inl ?_
          refine q_aload_n rfl rfl ?_
          refine v_cv rfl rfl rfl rfl (by decide) ⟨⟨rfl, rfl⟩, by decide, rfl⟩ (Nat.le_of_ble_eq_true rfl) (Nat.le_of_ble_eq_true rfl) ?_
          refine q_aload_n rfl rfl ?_
          refine v_gi (z := 5) (v := c_62 1 5) rfl rfl rfl (by decide) rfl rfl hrb_hR_278.2.1 ?_
          refine q_iconst rfl ?_
          refine v_ic_ne_t (t := 12) rfl (by decide) (by omega) ?_
          refine q_iconst rfl ?_
          refine v_zret rfl rfl (by decide) ?_
          refine bk_inl ?_
          refine v_if_ne_f (t := 89) rfl (by decide) (by decide) ?_
          refine q_goto (t := 103) rfl (by decide) ?_
          refine Wp_ls [(0, .ref 41), (1, vi a1), (2, vi v)] (lsub_cons rfl (lsub_cons rfl (lsub_cons rfl lsub_nil))) ?_
          have h_286 : c_274 41 5 = c_62 1 5 := hrb_hR_278.2.1
          have h_287 : c_274 41 6 = c_62 1 4 := hrb_hR_278.2.2.2
          exact K c_274 v hI_275 (fun a j hm => (hF_276 a j (fun q => q.elim (fun h => hm (Or.inl h)) (fun q => q.elim (fun h => hm (Or.inr (Or.inl h))) (fun h => hm (Or.inr (Or.inr (Or.inl h))))))).trans ((hF_257 a j (fun h => hm (Or.inl h))).trans (hFc a j (fun q => q.elim (fun h => hm (Or.inl h)) (fun q => q.elim (fun h => hm (Or.inr (Or.inl h))) (fun q => q.elim (fun h => hm (Or.inr (Or.inr (Or.inl h)))) (fun h => hm (Or.inr (Or.inr (Or.inr h)))))))))) ⟨by omega, by omega⟩ (by unfold Rt; omega) (by omega)
        · refine v_if_ne_f (t := 17) rfl (by decide) (by omega) ?_
          refine q_aload_n rfl rfl ?_
          refine q_iload_n rfl rfl ?_
          refine v_pi (z := 4) rfl rfl rfl (by decide) rfl rfl rfl (by decide) ?_
          refine q_aload_n rfl rfl ?_
          refine q_iload_n rfl rfl ?_
          refine v_pi (z := 5) rfl rfl rfl (by decide) rfl rfl rfl (by decide) ?_
          refine q_vret rfl rfl ?_
          refine bk_inl ?_
          refine q_goto (t := 63) rfl (by decide) ?_
          refine q_aload_n rfl rfl ?_
          refine q_ldc_s rfl rfl rfl (by decide) ?_
          refine v_cv rfl rfl rfl rfl (by decide) ⟨⟨rfl, rfl⟩, by decide, rfl⟩ (Nat.le_of_ble_eq_true rfl) (Nat.le_of_ble_eq_true rfl) ?_
          refine q_aload_n rfl rfl ?_
          refine v_cv rfl rfl rfl rfl (by decide) ⟨⟨rfl, rfl⟩, by decide, rfl⟩ (Nat.le_of_ble_eq_true rfl) (Nat.le_of_ble_eq_true rfl) ?_
          refine q_aload_n rfl rfl ?_
          refine v_gi (z := 4) (v := 3) rfl rfl rfl (by decide) rfl rfl ((up_n (by decide)).trans (up_e rfl)) ?_
          refine v_if_ne_t (t := 11) rfl (by decide) (by decide) ?_
          refine q_iconst rfl ?_
          refine v_zret rfl rfl (by decide) ?_
          refine bk_inl ?_
          refine v_if_eq_t (t := 25) rfl (by decide) (by decide) ?_
          refine q_vret rfl rfl ?_
          refine bk_inl ?_
          refine v_iinc (v := v + 1) rfl rfl (by decide) (by omega) ?_
          refine q_goto (t := 4) rfl (by decide) ?_
          refine q_iload_n rfl rfl ?_
          refine v_bip rfl (by decide) ?_
          refine v_ic_gt_t (t := 75) rfl (by decide) (by omega) ?_
          refine q_aload_n rfl rfl ?_
          refine v_cv rfl rfl rfl rfl (by decide) ⟨⟨rfl, rfl⟩, by decide, rfl⟩ (Nat.le_of_ble_eq_true rfl) (Nat.le_of_ble_eq_true rfl) ?_
          refine q_aload_n rfl rfl ?_
          refine v_gi (z := 4) (v := 3) rfl rfl rfl (by decide) rfl rfl ((up_n (by decide)).trans (up_e rfl)) ?_
          refine v_if_ne_t (t := 11) rfl (by decide) (by decide) ?_
          refine q_iconst rfl ?_
          refine v_zret rfl rfl (by decide) ?_
          refine bk_inl ?_
          refine v_if_eq_t (t := 102) rfl (by decide) (by decide) ?_
          refine q_vret rfl rfl ?_
          have hI_288 := iw_1_4 (v := 3) hI_63 ⟨by decide, by decide⟩
          have hI_289 := iw_1_5 (v := (nx F e1 a)) hI_288 ⟨by omega, by omega⟩
          intro hE_290
          have hW : Wd P Q P P (up (up c_62 1 4 3) 1 5 (nx F e1 a)) = Wd P Q P P m9 := (Prod.mk.inj (Prod.mk.inj hE_290).2).1
          have h_291 := ir_1_4 hJ9
          have h_292 : m9 1 4 = 3 := wd_fv (z := 4) 4 rfl hW rfl rfl rfl rfl (by decide) ((up_n (by decide)).trans (up_e rfl)) ⟨by omega, by omega⟩ ⟨by omega, by omega⟩
          have h_293 := ir_1_2 hI_63
          have h_294 := ir_1_2 hJ9
          have h_295 : m9 1 2 = c_62 1 2 := wd_fv (z := 2) 2 rfl hW rfl rfl rfl rfl (by decide) ((up_n (by decide)).trans (up_n (by decide))) ⟨by omega, by omega⟩ ⟨by omega, by omega⟩
          have h_296 := ir_1_5 hJ9
          have h_297 : m9 1 5 = (nx F e1 a) := wd_fv (z := 5) 5 rfl hW rfl rfl rfl rfl (by decide) (up_e rfl) ⟨by omega, by omega⟩ ⟨by omega, by omega⟩
          have h_298 := ir_p0_4 hJ2 hA
          have kn_299 : Hid (c_17 A 4 = m2 A 4) := hF_19 A 4 (fun h => absurd h.1 (np0 hA rfl))
          have kn_300 : Hid (c_53 A 4 = m2 A 4) := (hF_55 A 4 (fun h => absurd h.1 (np0 hA rfl))).trans (hid kn_299)
          have kn_301 : Hid (c_62 A 4 = m2 A 4) := (hF_64 A 4 (fun q => q.elim (fun h => absurd h.1 (np0 hA rfl)) (fun q => q.elim (fun h => absurd h.1 (np0 hA rfl)) (fun h => absurd h.1 (np0 hA rfl))))).trans (hid kn_300)
          have h_302 := ir_p0_4 hJ9 hA
          have h_303 : m9 A 4 = m2 A 4 := wd_fv (z := 4) 4 rfl hW (ck_p0 hA) (ck_p0 hA) rfl rfl (by omega) ((up_c (np0 hA rfl)).trans ((up_c (np0 hA rfl)).trans (hid kn_301))) ⟨by omega, by omega⟩ ⟨by omega, by omega⟩
          refine q_aload_n rfl rfl ?_
          refine v_cv rfl rfl rfl rfl (by decide) ⟨⟨rfl, rfl⟩, by decide, rfl⟩ (Nat.le_of_ble_eq_true rfl) (Nat.le_of_ble_eq_true rfl) ?_
          refine q_aload_n rfl rfl ?_
          refine v_gi (z := 5) (v := (-1)) rfl rfl rfl (by decide) rfl rfl (hc_1) ?_
          refine q_iconst rfl ?_
          refine v_ic_ne_f (t := 12) rfl (by decide) (by decide) ?_
          refine q_iconst rfl ?_
          refine q_goto (t := 13) rfl (by decide) ?_
          refine v_zret rfl rfl (by decide) ?_
          refine bk_inl ?_
          refine v_if_eq_f (t := 103) rfl (by decide) (by decide) ?_
          refine q_aload_n rfl rfl ?_
          refine v_cv rfl rfl rfl rfl (by decide) ⟨⟨rfl, rfl⟩, by decide, rfl⟩ (Nat.le_of_ble_eq_true rfl) (Nat.le_of_ble_eq_true rfl) ?_
          refine q_aload_n rfl rfl ?_
          have kn_304 : Hid (c2 41 3 = e1) := (hFc 41 3 (fun q => q.elim (fun h => absurd h.2 (ni rfl)) (fun q => q.elim (fun h => absurd h.2 (ni rfl)) (fun q => q.elim (fun h => absurd h.2 (ni rfl)) (fun h => absurd h (nn rfl)))))).trans (hr_e1)
          have h_305 : -2147483648 ≤ (H (nx F e1 a)) ∧ (H (nx F e1 a)) ≤ 2147483647 := by rw [← hH (nx F e1 a)]; exact ir_43 hI (nx F e1 a)
          have h_306 := hU (nx F e1 a) (by omega) (by omega)
          have h_307 := hb_or (b := H) (e := e1) (r := (nx F e1 a))
          have h_308 := hb_bd (b := H) (e := e1) (r := (nx F e1 a)) (lo := -2147483648) (hi := 2147483647) ⟨by omega, by omega⟩ (by decide)
          refine v_cv rfl rfl rfl rfl (by decide) ⟨⟨rfl, rfl⟩, by decide, rfl⟩ (Nat.le_of_ble_eq_true rfl) (Nat.le_of_ble_eq_true rfl) (f_154 (e1 := e1) (a9 := a) (B := H) (r8 := (nx F e1 a)) (r := (hb H e1 (nx F e1 a))) hI2 ((hid kn_304)) ((hr_a)) (fun j => (hFc 43 j (fun q => q.elim (fun h => absurd h.1 (nn rfl)) (fun q => q.elim (fun h => absurd h.1 (nn rfl)) (fun q => q.elim (fun h => absurd h.1 (nn rfl)) (fun h => absurd h (nn rfl)))))).trans (hH j)) ((nx_tr hU (by omega) (by omega)).trans (rfl)) rfl (fun c_309 hI_310 hF_311 h_312 => ?_))
          refine bk_inl ?_
          refine q_pop rfl rfl ?_
          refine q_aload_n rfl rfl ?_
          refine v_gi (z := 4) (v := (nx F e1 a)) rfl rfl rfl (by decide) rfl rfl (h_312) ?_
          refine q_aload_n rfl rfl ?_
          have kn_313 : Hid (c_309 41 3 = e1) := (hF_311 41 3 (fun h => absurd h.2 (ni rfl))).trans (hid kn_304)
          refine v_gi (z := 3) (v := e1) rfl rfl rfl (by decide) rfl rfl (hid kn_313) ?_
          refine v_ic_ge_f (t := 20) rfl (by decide) (by omega) ?_
          refine q_iconst rfl ?_
          refine q_goto (t := 21) rfl (by decide) ?_
          refine v_zret rfl rfl (by decide) ?_
          refine bk_inl ?_
          refine v_if_eq_f (t := 103) rfl (by decide) (by decide) ?_
          refine q_aload_n rfl rfl ?_
          refine v_gi (z := 4) (v := (nx F e1 a)) rfl rfl rfl (by decide) rfl rfl (h_312) ?_
          refine q_istore_n rfl (by decide) ?_
          refine q_aload_n rfl rfl ?_
          refine q_iconst rfl ?_
          refine q_aload_n rfl rfl ?_
          have kn_314 : Hid (c2 41 22 = si) := (hFc 41 22 (fun q => q.elim (fun h => absurd h.2 (ni rfl)) (fun q => q.elim (fun h => absurd h.2 (ni rfl)) (fun q => q.elim (fun h => absurd h.2 (ni rfl)) (fun h => absurd h (nn rfl)))))).trans (hr_si)
          have kn_315 : Hid (c_309 41 22 = si) := (hF_311 41 22 (fun h => absurd h.2 (ni rfl))).trans (hid kn_314)
          refine v_gi (z := 22) (v := si) rfl rfl rfl (by decide) rfl rfl (hid kn_315) ?_
          refine q_iconst rfl ?_
          refine v_isub (v := si - 1) rfl (by omega) ?_
          have kn_316 : Hid (c_53 1 1 = e1) := (hF_55 1 1 (fun h => absurd h.2 (ni rfl))).trans (hid kn_21)
          have h_317 : c_53 1 4 = 0 := (hid kn_61)
          have h_318 : c_53 1 2 = (nx F e1 a) := (hz_56)
          have kn_319 : Hid (c_17 1 5 = (-1)) := (hF_19 1 5 (fun h => absurd h.2 (ni rfl))).trans (hc_2)
          have kn_320 : Hid (c_53 1 5 = (-1)) := (hF_55 1 5 (fun h => absurd h.2 (ni rfl))).trans (hid kn_319)
          have h_321 : c_53 1 5 = (-1) := (hid kn_320)
          have kn_322 : Hid (c_309 41 5 = (-1)) := (hF_311 41 5 (fun h => absurd h.2 (ni rfl))).trans (hc_1)
          have h_323 : c_309 41 5 = (-1) := (hid kn_322)
          have h_324 : c_309 41 4 = (nx F e1 a) := (h_312)
          have h_325 := ir_41_6 hI2
          have kn_326 : Hid (c_309 41 6 = c2 41 6) := hF_311 41 6 (fun h => absurd h.2 (ni rfl))
          have h_327 : c_309 41 6 = c2 41 6 := (hid kn_326)
          refine v_cv rfl rfl rfl rfl (by decide) ⟨⟨rfl, rfl⟩, by decide, rfl⟩ (Nat.le_of_ble_eq_true rfl) (Nat.le_of_ble_eq_true rfl) (L_8 (m := c_53) (a2 := si - 1) (yg := y_65) (e1 := e1) (a9 := (nx F e1 a)) (F := F) (H := H) hI_310 hI_54 hI_63 (show (-1) ≤ si - 1 ∧ si - 1 ≤ 9999 from by omega) ⟨by omega, by omega⟩ ((hid kn_316)) ((hid kn_313)) ((hz_56)) (fun j => ((hF_55 2 j (fun h => absurd h.1 (nn rfl))).trans ((hF_19 2 j (fun h => absurd h.1 (nn rfl))).trans (hFm 2 j (fun q => q.elim (fun h => absurd h.1 (nn rfl)) (fun q => q.elim (fun h => absurd h.1 (nn rfl)) (fun q => q.elim (fun h => absurd h.1 (nn rfl)) (fun q => q.elim (fun h => absurd h.1 (pn0 hA rfl)) (fun q => q.elim (fun h => absurd h (pn hA rfl rfl)) (fun h => absurd h (pn hA rfl rfl)))))))))).trans (hF j)) (fun j => ((hF_311 43 j (fun h => absurd h.1 (nn rfl))).trans (hFc 43 j (fun q => q.elim (fun h => absurd h.1 (nn rfl)) (fun q => q.elim (fun h => absurd h.1 (nn rfl)) (fun q => q.elim (fun h => absurd h.1 (nn rfl)) (fun h => absurd h (nn rfl))))))).trans (hH j)) hU (by unfold Rt; omega) hG_67 (fun c_328 y_331 hI_329 hF_330 hy_331 hR_332 h_333 h_334 => ?_))
          refine bk_inl ?_
          have hs_335 := h_333.symm
          subst hs_335
          refine q_istore rfl (by decide) ?_
          refine q_aload_n rfl rfl ?_
          refine v_cv rfl rfl rfl rfl (by decide) ⟨⟨rfl, rfl⟩, by decide, rfl⟩ (Nat.le_of_ble_eq_true rfl) (Nat.le_of_ble_eq_true rfl) ?_
          refine q_aload_n rfl rfl ?_
          have h_336 := ir_41_5 hI_329
          have h_337 := ir_1_5 hI_63
          have h_338 := ir_41_4 hI_329
          have h_339 := ir_41_6 hI_329
          have h_340 := rt_ok hR_332 (by omega)
          have hro_hR_332 := rt_ok hR_332 (by omega)
          refine v_gi (z := 5) (v := (-1)) rfl rfl rfl (by decide) rfl rfl hro_hR_332.2.1 ?_
          refine q_iconst rfl ?_
          refine v_ic_ne_f (t := 12) rfl (by decide) (by decide) ?_
          refine q_iconst rfl ?_
          refine q_goto (t := 13) rfl (by decide) ?_
          refine v_zret rfl rfl (by decide) ?_
          refine bk_inl ?_
          refine v_if_eq_f (t := 73) rfl (by decide) (by decide) ?_
          refine q_iload_n rfl rfl ?_
          refine v_bip rfl (by decide) ?_
          refine v_ic_ne_f (t := 73) rfl (by decide) (by omega) ?_
          refine q_aload_n rfl rfl ?_
          refine q_iconst rfl ?_
          refine q_iload_n rfl rfl ?_
          refine v_cv rfl rfl rfl rfl (by decide) ⟨⟨rfl, rfl⟩, by decide, rfl⟩ (Nat.le_of_ble_eq_true rfl) (Nat.le_of_ble_eq_true rfl) ?_
          refine q_aload_n rfl rfl ?_
          refine v_gi (z := 5) (v := (-1)) rfl rfl rfl (by decide) rfl rfl hro_hR_332.2.1 ?_
          refine q_iconst rfl ?_
          refine v_ic_eq_t (t := 9) rfl (by decide) (by decide) ?_
          refine q_aload_n rfl rfl ?_
          refine q_iload_n rfl rfl ?_
          refine v_pi (z := 5) rfl rfl rfl (by decide) rfl rfl rfl (by decide) ?_
          refine q_aload_n rfl rfl ?_
          refine q_iload_n rfl rfl ?_
          refine v_pi (z := 6) rfl rfl rfl (by decide) rfl rfl rfl (by decide) ?_
          refine q_vret rfl rfl ?_
          refine bk_inl ?_
          refine q_aload_n rfl rfl ?_
          refine v_bip rfl (by decide) ?_
          refine v_cv rfl rfl rfl rfl (by decide) ⟨⟨rfl, rfl⟩, by decide, rfl⟩ (Nat.le_of_ble_eq_true rfl) (Nat.le_of_ble_eq_true rfl) ?_
          refine q_aload_n rfl rfl ?_
          refine v_cv rfl rfl rfl rfl (by decide) ⟨⟨rfl, rfl⟩, by decide, rfl⟩ (Nat.le_of_ble_eq_true rfl) (Nat.le_of_ble_eq_true rfl) ?_
          refine q_aload_n rfl rfl ?_
          refine v_gi (z := 5) (v := (nx F e1 a)) rfl rfl rfl (by decide) rfl rfl ((up_n (by decide)).trans (up_e rfl)) ?_
          refine q_iconst rfl ?_
          refine v_ic_ne_t (t := 12) rfl (by decide) (by omega) ?_
          refine q_iconst rfl ?_
          refine v_zret rfl rfl (by decide) ?_
          refine bk_inl ?_
          refine v_if_eq_t (t := 24) rfl (by decide) (by decide) ?_
          refine q_aload_n rfl rfl ?_
          refine v_cv rfl rfl rfl rfl (by decide) ⟨⟨rfl, rfl⟩, by decide, rfl⟩ (Nat.le_of_ble_eq_true rfl) (Nat.le_of_ble_eq_true rfl) ?_
          refine q_aload_n rfl rfl ?_
          refine v_gi (z := 5) (v := (nx F e1 a)) rfl rfl rfl (by decide) rfl rfl ((up_n (by decide)).trans (up_e rfl)) ?_
          refine q_iconst rfl ?_
          refine v_ic_ne_t (t := 12) rfl (by decide) (by omega) ?_
          refine q_iconst rfl ?_
          refine v_zret rfl rfl (by decide) ?_
          refine bk_inl ?_
          refine v_if_eq_t (t := 41) rfl (by decide) (by decide) ?_
          refine q_vret rfl rfl ?_
          refine bk_inl ?_
          refine q_aload_n rfl rfl ?_
          refine v_cv rfl rfl rfl rfl (by decide) ⟨⟨rfl, rfl⟩, by decide, rfl⟩ (Nat.le_of_ble_eq_true rfl) (Nat.le_of_ble_eq_true rfl) ?_
          refine q_aload_n rfl rfl ?_
          refine v_gi (z := 5) (v := (nx F e1 a)) rfl rfl rfl (by decide) rfl rfl ((up_n (by decide)).trans (up_e rfl)) ?_
          refine q_iconst rfl ?_
          refine v_ic_ne_t (t := 12) rfl (by decide) (by omega) ?_
          refine q_iconst rfl ?_
          refine v_zret rfl rfl (by decide) ?_
          refine bk_inl ?_
          refine v_if_ne_f (t := 89) rfl (by decide) (by decide) ?_
          refine q_goto (t := 103) rfl (by decide) ?_
          refine Wp_ls [(0, .ref 41), (1, vi a1), (2, vi v)] (lsub_cons rfl (lsub_cons rfl (lsub_cons rfl lsub_nil))) ?_
          have hI_341 := iw_41_5 (v := (nx F e1 a)) hI_329 ⟨by omega, by omega⟩
          have hI_342 := iw_41_6 (v := 3) hI_341 ⟨by decide, by decide⟩
          have h_343 : (up (up c_328 41 5 (nx F e1 a)) 41 6 3) 41 5 = (nx F e1 a) := ((up_n (by decide)).trans (up_e rfl))
          have h_344 : (up (up c_328 41 5 (nx F e1 a)) 41 6 3) 41 4 = c_62 1 2 := ((((up_n (by decide)).trans (up_n (by decide)))).trans (hro_hR_332.2.2.1))
          have h_345 : (up (up c_328 41 5 (nx F e1 a)) 41 6 3) 41 6 = 3 := (up_e rfl)
          exact K (up (up c_328 41 5 (nx F e1 a)) 41 6 3) v hI_342 (fun a j hm => (up_b (Decidable.or_iff_not_imp_left.mpr (fun h1 h2 => hm (Or.inr (Or.inr (Or.inl ⟨Decidable.not_not.mp h1, h2⟩)))))).trans ((up_b (Decidable.or_iff_not_imp_left.mpr (fun h1 h2 => hm (Or.inr (Or.inl ⟨Decidable.not_not.mp h1, h2⟩))))).trans ((hF_330 a j (fun q => q.elim (fun h => hm (Or.inl h)) (fun q => q.elim (fun h => hm (Or.inr (Or.inl h))) (fun h => hm (Or.inr (Or.inr (Or.inl h))))))).trans ((hF_311 a j (fun h => hm (Or.inl h))).trans (hFc a j (fun q => q.elim (fun h => hm (Or.inl h)) (fun q => q.elim (fun h => hm (Or.inr (Or.inl h))) (fun q => q.elim (fun h => hm (Or.inr (Or.inr (Or.inl h)))) (fun h => hm (Or.inr (Or.inr (Or.inr h)))))))))))) ⟨by omega, by omega⟩ (by unfold Rt; omega) (by omega)
set_option maxRecDepth 100000 in
set_option maxHeartbeats 4000000 in
theorem L_35 {sc : List Int32} {e eg : Int} {d dh u ug P Q P2 Q2 A : Nat} {c m m9 : ME} {a1 e1 f0 g0 si : Int} {F H : Int → Int} {Z : AR → Prop} (hI : Iv u e P2 Q2 c) (hJ : Iv ug eg P Q m) (hJ9 : Iv ug eg P Q m9) (hA : A = 13 ∨ A = 25) (ha1 : (-2147483648) ≤ a1 ∧ a1 ≤ 2147483647) (hq0 : (f0 = 0)) (hq1 : (g0 = (-1))) (hg_e1 : m 1 1 = e1) (hr_e1 : c 41 3 = e1) (hg_f0 : m 1 4 = f0) (hg_g0 : m 1 5 = g0) (hg_si : m A 2 = si) (hr_si : c 41 22 = si) (hF : ∀ j : Int, m 2 j = F j) (hH : ∀ j : Int, c 43 j = H j) (hU : Ub F H) (hRt : Rt m c) (hG : Wp sc (dh + 30) 35 0 [(0, .ref A), (1, .ref 1)] [] (Wd P Q P P m) 0 0 (fun q => q = (.inl (none), Wd P Q P P m9, 0, 0))) (K : ∀ (c2 : ME) (y : Int), Iv u e P2 Q2 c2 → (∀ (a : Nat) (j : Int), ¬ ((a = 41 ∧ j = 4) ∨ (a = 41 ∧ j = 5) ∨ (a = 41 ∧ j = 6) ∨ a = 61) → c2 a j = c a j) → 0 ≤ y ∧ y ≤ 8 → (Rt m9 c2) → ((m9 1 4 < 0) ∨ (m9 1 4 > 0) ∨ (m9 A 4 = y)) → Wp sc (d + 22) 206 103 [(0, .ref 41), (1, vi a1), (2, vi y)] [] (Wd P2 Q2 P2 P2 c2) 0 0 Z) : Wp sc (d + 22) 206 22 [(0, .ref 41), (1, vi a1), (2, vi 0)] [] (Wd P2 Q2 P2 P2 c) 0 0 Z := by
  have hP := iv_P hJ
  have hQ := iv_Q hJ
  have h_346 := ir_1_1 hJ
  have h_347 := ir_41_3 hI
  have h_348 := ir_1_4 hJ
  have h_349 := ir_1_5 hJ
  have h_350 := ir_p0_2 hJ hA
  have h_351 := ir_41_22 hI
  refine gh hG ?_
  refine q_iconst rfl ?_
  refine q_istore_n rfl (by decide) ?_
  refine q_iconst rfl ?_
  refine q_istore_n rfl (by decide) ?_
  refine Wp_ls [(0, .ref A), (1, .ref 1), (2, vi 0), (3, vi 0)] (lsub_cons rfl (lsub_cons rfl (lsub_cons rfl (lsub_cons rfl lsub_nil)))) ?_
  refine gh_stop (s_35_l (sc := sc) (d := dh + 20) (c := m) (Z := fun _ => True) hJ hA (fun _ _ _ => trivial) 20 m 0 0 hJ (fun a j hm => rfl) ⟨by omega, by omega⟩ ⟨by omega, by omega⟩ (fun j h1 h2 => by omega) (by omega) (by omega)) (fun hG_352 => ?_)
  refine Wp_ls [(0, .ref 41), (1, vi a1), (2, vi 0)] (lsub_cons rfl (lsub_cons rfl (lsub_cons rfl lsub_nil))) ?_
  have h_353 := ir_1_2 hJ
  have h_354 := ir_41_4 hI
  have h_355 := ir_41_5 hI
  have h_356 := ir_41_6 hI
  have h_357 := rt_ok hRt (by omega)
  have hro_hRt := rt_ok hRt (by omega)
  exact (L_35_l (sc := sc) (d := d) (dh := dh) hI hJ hJ9 hA ha1 hq0 hq1 hg_e1 hr_e1 hg_f0 hg_g0 hg_si hr_si hF hH hU hRt K 10) c m 0 0 (m 1 2) hI (fun a j hm => rfl) hJ (fun a j hm => rfl) ⟨by omega, by omega⟩ ⟨by omega, by omega⟩ ⟨by omega, by omega⟩ (rfl) (hro_hRt.2.2.1) ((show _ = f0 from (hg_f0)).trans (by omega)) (hro_hRt.2.1) ((show _ = g0 from (hg_g0)).trans (by omega)) (fun j h1 h2 => by omega) (by omega) hG_352 (by omega)

set_option maxRecDepth 100000 in
set_option maxHeartbeats 4000000 in
theorem L_87 {sc : List Int32} {d dh P Q P2 Q2 : Nat} {c m m9 : ME} {a1 yg t9 si : Int} {F H : Int → Int} {Z : AR → Prop} (hI : Iv 0 (-1) P2 Q2 c) (hJ : Iv 0 (-1) P Q m) (hJ9 : Iv 0 (-1) P Q m9) (ha1 : (-2147483648) ≤ a1 ∧ a1 ≤ 2147483647) (hyg : (-2147483648) ≤ yg ∧ yg ≤ 2147483647) (hq0 : (a1 ≥ 0 ∧ a1 ≤ t9 ∧ a1 ≤ 60)) (hg_t9 : m 1 3 = t9) (hr_t9 : c 41 2 = t9) (hg_si : m P 2 = si) (hr_si : c 41 22 = si) (hF : ∀ j : Int, m 2 j = F j) (hH : ∀ j : Int, c 43 j = H j) (hU : Ub F H) (hG : Wp sc (dh + 50) 87 0 [(0, .ref 0), (1, vi a1)] [] (Wd P Q P P m) 0 0 (fun q => q = (.inl (some (vi yg)), Wd P Q P P m9, 0, 0))) (K : ∀ (c2 : ME) (y : Int), Iv 0 (-1) P2 Q2 c2 → (∀ (a : Nat) (j : Int), ¬ ((a = 41 ∧ j = 0) ∨ a = 42 ∨ (a = 41 ∧ j = 2) ∨ (a = 41 ∧ j = 3) ∨ (a = 41 ∧ j = 4) ∨ (a = 41 ∧ j = 5) ∨ (a = 41 ∧ j = 6) ∨ (a = 41 ∧ j = 7) ∨ (a = 41 ∧ j = 8) ∨ (a = 41 ∧ j = 47) ∨ a = 61 ∨ a = 62) → c2 a j = c a j) → (-2147483648) ≤ y ∧ y ≤ 2147483647 → ((y = yg)) → ((c2 41 2 = 0)) → ((c2 41 8 = m9 1 5)) → ((c2 41 0 = 0)) → Z (.inl (some (vi y)), Wd P2 Q2 P2 P2 c2, 0, 0)) : Wp sc (d + 40) 206 0 [(0, .ref 41), (1, vi a1)] [] (Wd P2 Q2 P2 P2 c) 0 0 Z := by
  have hP := iv_P hJ
  have hQ := iv_Q hJ
  have h_1 := ir_1_3 hJ
  have h_2 := ir_41_2 hI
  have h_3 := ir_p0_2 hJ hP
  have h_4 := ir_41_22 hI
  refine gh hG ?_
  refine q_aload_n rfl rfl ?_
  refine q_iload_n rfl rfl ?_
  refine v_bip rfl (by decide) ?_
  refine v_cv rfl rfl rfl rfl (by decide) ⟨⟨rfl, rfl⟩, by decide, rfl⟩ (Nat.le_of_ble_eq_true rfl) (Nat.le_of_ble_eq_true rfl) ?_
  refine q_aload_n rfl rfl ?_
  refine q_iload_n rfl rfl ?_
  refine q_iconst rfl ?_
  refine q_iload_n rfl rfl ?_
  refine q_aload_n rfl rfl ?_
  refine v_gr (t := 1) rfl rfl rfl (by decide) rfl ?_
  refine v_gi (z := 3) (v := t9) rfl rfl rfl (by decide) rfl rfl (hg_t9) ?_
  refine v_minx rfl rfl (by omega) (Nat.le_of_ble_eq_true rfl) ⟨by omega, by omega, by omega, by omega⟩ (fun y_5 hy_5 => ?_)
  refine q_call rfl rfl rfl rfl ?_
  refine q_iload_n rfl rfl ?_
  refine q_iload_n rfl rfl ?_
  refine v_ic_lt_f (t := 14) rfl (by decide) (by omega) ?_
  refine q_iload_n rfl rfl ?_
  refine q_iload_n rfl rfl ?_
  refine v_ic_gt_f (t := 14) rfl (by decide) (by omega) ?_
  refine q_iconst rfl ?_
  refine q_goto (t := 15) rfl (by decide) ?_
  refine v_zret rfl rfl (by decide) ?_
  refine bk_inl ?_
  refine v_cv rfl rfl rfl rfl (by decide) ⟨⟨rfl, rfl⟩, by decide, rfl⟩ (Nat.le_of_ble_eq_true rfl) (Nat.le_of_ble_eq_true rfl) ?_
  refine q_iload_n rfl rfl ?_
  refine v_if_ne_t (t := 25) rfl (by decide) (by decide) ?_
  refine q_vret rfl rfl ?_
  refine bk_inl ?_
  refine q_aload_n rfl rfl ?_
  refine v_gr (t := 1) rfl rfl rfl (by decide) rfl ?_
  refine q_iload_n rfl rfl ?_
  refine v_cv rfl rfl rfl rfl (by decide) ⟨⟨rfl, rfl⟩, by decide, rfl⟩ (Nat.le_of_ble_eq_true rfl) (Nat.le_of_ble_eq_true rfl) ?_
  refine q_aload_n rfl rfl ?_
  refine q_iload_n rfl rfl ?_
  refine q_aload_n rfl rfl ?_
  refine v_gi (z := 3) (v := t9) rfl rfl rfl (by decide) rfl rfl (hg_t9) ?_
  refine v_minx rfl rfl (by omega) (Nat.le_of_ble_eq_true rfl) ⟨by omega, by omega, by omega, by omega⟩ (fun y_6 hy_6 => ?_)
  refine v_pi (z := 1) rfl rfl rfl (by decide) rfl rfl rfl (by decide) ?_
  refine q_aload_n rfl rfl ?_
  refine q_iconst rfl ?_
  refine v_pi (z := 2) rfl rfl rfl (by decide) rfl rfl rfl (by decide) ?_
  refine q_aload_n rfl rfl ?_
  refine q_iconst rfl ?_
  refine v_pi (z := 3) rfl rfl rfl (by decide) rfl rfl rfl (by decide) ?_
  refine q_aload_n rfl rfl ?_
  refine q_iconst rfl ?_
  refine v_pi (z := 4) rfl rfl rfl (by decide) rfl rfl rfl (by decide) ?_
  refine q_aload_n rfl rfl ?_
  refine q_iconst rfl ?_
  refine v_pi (z := 5) rfl rfl rfl (by decide) rfl rfl rfl (by decide) ?_
  refine q_vret rfl rfl ?_
  refine bk_inl ?_
  refine q_vret rfl rfl ?_
  refine bk_inl ?_
  refine q_aload_n rfl rfl ?_
  refine v_gr (t := P) rfl rfl rfl (by decide) rfl ?_
  refine q_aload_n rfl rfl ?_
  refine v_gr (t := 1) rfl rfl rfl (by decide) rfl ?_
  have hI_7 := iw_1_1 (v := y_6) hJ ⟨by omega, by omega⟩
  have hI_8 := iw_1_2 (v := 0) hI_7 ⟨by decide, by decide⟩
  have hI_9 := iw_1_3 (v := 0) hI_8 ⟨by decide, by decide⟩
  have hI_10 := iw_1_4 (v := 0) hI_9 ⟨by decide, by decide⟩
  have hI_11 := iw_1_5 (v := (-1)) hI_10 ⟨by decide, by decide⟩
  refine v_cv rfl rfl rfl (ck_p0 hP) (by omega) ⟨⟨rfl, rfl⟩, by decide, rfl⟩ (Nat.le_of_ble_eq_true rfl) (Nat.le_of_ble_eq_true rfl) (fn_of (s_35 hI_11 hP (fun c_12 hI_13 hF_14 => ?_)))
  intro hG_15
  refine bk_inl ?_
  refine q_aload_n rfl rfl ?_
  refine q_aload_n rfl rfl ?_
  refine v_gr (t := P) rfl rfl rfl (by decide) rfl ?_
  have h_16 := ir_p0_4 hI_13 hP
  refine v_gi (z := 4) (v := c_12 P 4) rfl rfl (ck_p0 hP) (by omega) rfl rfl rfl ?_
  refine v_cv rfl rfl rfl rfl (by decide) ⟨⟨rfl, rfl⟩, by decide, rfl⟩ (Nat.le_of_ble_eq_true rfl) (Nat.le_of_ble_eq_true rfl) ?_
  refine q_aload_n rfl rfl ?_
  refine v_gr (t := 1) rfl rfl rfl (by decide) rfl ?_
  refine v_cv rfl rfl rfl rfl (by decide) ⟨⟨rfl, rfl⟩, by decide, rfl⟩ (Nat.le_of_ble_eq_true rfl) (Nat.le_of_ble_eq_true rfl) ?_
  refine q_aload_n rfl rfl ?_
  have h_17 := ir_1_4 hI_13
  refine v_gi (z := 4) (v := c_12 1 4) rfl rfl rfl (by decide) rfl rfl rfl ?_
  by_cases h_18 : c_12 1 4 ≠ 0
  · refine v_if_ne_t (t := 11) rfl (by decide) (by omega) ?_
    refine q_iconst rfl ?_
    refine v_zret rfl rfl (by decide) ?_
    refine bk_inl ?_
    refine v_if_eq_t (t := 14) rfl (by decide) (by decide) ?_
    refine q_aload_n rfl rfl ?_
    refine v_gr (t := 1) rfl rfl rfl (by decide) rfl ?_
    refine v_gi (z := 4) (v := c_12 1 4) rfl rfl rfl (by decide) rfl rfl rfl ?_
    refine v_bip rfl (by decide) ?_
    refine v_isub (v := c_12 1 4 - 10) rfl (by omega) ?_
    refine q_iret rfl rfl ?_
    refine bk_inl ?_
    refine q_iret rfl rfl ?_
    intro hE_19
    have h_20 : yg = c_12 1 4 - 10 := (vi_inj ⟨by omega, by omega⟩ ⟨by omega, by omega⟩ (Option.some.inj (Sum.inl.inj (Prod.mk.inj hE_19).1))).symm
    have hW : Wd P Q P P c_12 = Wd P Q P P m9 := (Prod.mk.inj (Prod.mk.inj hE_19).2).1
    have h_21 := ir_1_5 hI_13
    have h_22 := ir_1_5 hJ9
    have h_23 : m9 1 5 = c_12 1 5 := wd_fv (z := 5) 5 rfl hW rfl rfl rfl rfl (by decide) rfl ⟨by omega, by omega⟩ ⟨by omega, by omega⟩
    refine q_aload_n rfl rfl ?_
    refine q_iconst rfl ?_
    refine v_pi (z := 0) rfl rfl rfl (by decide) rfl rfl rfl (by decide) ?_
    refine q_aload_n rfl rfl ?_
    refine q_iload_n rfl rfl ?_
    refine v_cv rfl rfl rfl rfl (by decide) ⟨⟨rfl, rfl⟩, by decide, rfl⟩ (Nat.le_of_ble_eq_true rfl) (Nat.le_of_ble_eq_true rfl) ?_
    refine q_aload_n rfl rfl ?_
    refine q_iload_n rfl rfl ?_
    refine v_if_lt_f (t := 23) rfl (by decide) (by omega) ?_
    refine q_iload_n rfl rfl ?_
    refine q_aload_n rfl rfl ?_
    refine v_gi (z := 2) (v := t9) rfl rfl rfl (by decide) rfl rfl ((up_n (by decide)).trans (hr_t9)) ?_
    refine v_ic_gt_f (t := 23) rfl (by decide) (by omega) ?_
    refine q_iload_n rfl rfl ?_
    refine v_bip rfl (by decide) ?_
    refine v_ic_gt_f (t := 23) rfl (by decide) (by omega) ?_
    refine q_iconst rfl ?_
    refine q_goto (t := 24) rfl (by decide) ?_
    refine q_iconst rfl ?_
    refine q_iconst rfl ?_
    refine v_cv rfl rfl rfl rfl (by decide) ⟨⟨rfl, rfl⟩, by decide, rfl⟩ (Nat.le_of_ble_eq_true rfl) (Nat.le_of_ble_eq_true rfl) ?_
    refine q_iload_n rfl rfl ?_
    refine v_if_ne_t (t := 26) rfl (by decide) (by decide) ?_
    refine q_aload_n rfl rfl ?_
    refine v_gi (z := 0) (v := 0) rfl rfl rfl (by decide) rfl rfl (up_e rfl) ?_
    refine v_if_ne_f (t := 37) rfl (by decide) (by decide) ?_
    refine q_iconst rfl ?_
    refine q_goto (t := 38) rfl (by decide) ?_
    refine v_zret rfl rfl (by decide) ?_
    refine bk_inl ?_
    refine v_zret rfl rfl (by decide) ?_
    refine bk_inl ?_
    refine v_if_ne_t (t := 15) rfl (by decide) (by decide) ?_
    refine q_aload_n rfl rfl ?_
    refine q_iload_n rfl rfl ?_
    have hI_24 := iw_41_0 (v := 0) hI ⟨by decide, by decide⟩
    refine v_cv rfl rfl rfl rfl (by decide) ⟨⟨rfl, rfl⟩, by decide, rfl⟩ (Nat.le_of_ble_eq_true rfl) (Nat.le_of_ble_eq_true rfl) (s_163 (a1 := a1) hI_24 (show 0 ≤ a1 ∧ a1 ≤ 600 from by omega) (fun c_25 hI_26 hF_27 h_28 => ?_))
    refine bk_inl ?_
    have h_29 := ir_41_2 hI_26
    have h_30 := ir_41_3 hI_26
    have h_31 := ir_41_4 hI_26
    have h_32 := ir_41_5 hI_26
    have h_33 := ir_41_7 hI_26
    refine q_iconst rfl ?_
    refine q_istore_n rfl (by decide) ?_
    refine Wp_ls [(0, .ref 41), (1, vi a1), (2, vi 0)] (lsub_cons rfl (lsub_cons rfl (lsub_cons rfl lsub_nil))) ?_
    have kn_34 : Hid (c_25 41 22 = si) := (hF_27 41 22 (fun q => q.elim (fun h => absurd h.2 (ni rfl)) (fun q => q.elim (fun h => absurd h.2 (ni rfl)) (fun q => q.elim (fun h => absurd h.2 (ni rfl)) (fun q => q.elim (fun h => absurd h.2 (ni rfl)) (fun q => q.elim (fun h => absurd h.2 (ni rfl)) (fun h => absurd h.2 (ni rfl)))))))).trans ((up_n (by decide)).trans (hr_si))
    have h_35 : (up (up (up (up (up m 1 1 y_6) 1 2 0) 1 3 0) 1 4 0) 1 5 (-1)) 1 4 = 0 := ((up_n (by decide)).trans (up_e rfl))
    have h_36 : (up (up (up (up (up m 1 1 y_6) 1 2 0) 1 3 0) 1 4 0) 1 5 (-1)) 1 2 = 0 := ((up_n (by decide)).trans ((up_n (by decide)).trans ((up_n (by decide)).trans (up_e rfl))))
    have h_37 : (up (up (up (up (up m 1 1 y_6) 1 2 0) 1 3 0) 1 4 0) 1 5 (-1)) 1 5 = (-1) := (up_e rfl)
    have h_38 := ir_41_6 hI
    have kn_39 : Hid (c_25 41 6 = c 41 6) := (hF_27 41 6 (fun q => q.elim (fun h => absurd h.2 (ni rfl)) (fun q => q.elim (fun h => absurd h.2 (ni rfl)) (fun q => q.elim (fun h => absurd h.2 (ni rfl)) (fun q => q.elim (fun h => absurd h.2 (ni rfl)) (fun q => q.elim (fun h => absurd h.2 (ni rfl)) (fun h => absurd h.2 (ni rfl)))))))).trans (up_n (by decide))
    have h_40 : c_25 41 6 = c 41 6 := (hid kn_39)
    refine L_35 (m := up (up (up (up (up m 1 1 y_6) 1 2 0) 1 3 0) 1 4 0) 1 5 (-1)) (a1 := a1) (e1 := y_6) (f0 := 0) (g0 := (-1)) (si := si) (F := F) (H := H) hI_26 hI_11 hI_13 hP (show (-2147483648) ≤ a1 ∧ a1 ≤ 2147483647 from by omega) (by omega) (by omega) (((up_n (by decide)).trans ((up_n (by decide)).trans ((up_n (by decide)).trans ((up_n (by decide)).trans (up_e rfl)))))) (((show _ = c_25 41 3 from rfl).trans (by omega))) (((up_n (by decide)).trans (up_e rfl))) ((up_e rfl)) (((up_c (np0 hP rfl)).trans ((up_c (np0 hP rfl)).trans ((up_c (np0 hP rfl)).trans ((up_c (np0 hP rfl)).trans ((up_c (np0 hP rfl)).trans (hg_si))))))) ((hid kn_34)) (fun j => ((up_c (nn rfl)).trans ((up_c (nn rfl)).trans ((up_c (nn rfl)).trans ((up_c (nn rfl)).trans (up_c (nn rfl)))))).trans (hF j)) (fun j => ((hF_27 43 j (fun q => q.elim (fun h => absurd h.1 (nn rfl)) (fun q => q.elim (fun h => absurd h.1 (nn rfl)) (fun q => q.elim (fun h => absurd h.1 (nn rfl)) (fun q => q.elim (fun h => absurd h.1 (nn rfl)) (fun q => q.elim (fun h => absurd h.1 (nn rfl)) (fun h => absurd h.1 (nn rfl)))))))).trans (up_c (nn rfl))).trans (hH j)) hU (by unfold Rt; omega) hG_15 (fun c_41 y_44 hI_42 hF_43 hy_44 hR_45 h_46 => ?_)
    refine q_aload_n rfl rfl ?_
    refine q_iload_n rfl rfl ?_
    refine v_cv rfl rfl rfl rfl (by decide) ⟨⟨rfl, rfl⟩, by decide, rfl⟩ (Nat.le_of_ble_eq_true rfl) (Nat.le_of_ble_eq_true rfl) ?_
    refine q_aload_n rfl rfl ?_
    refine q_aload_n rfl rfl ?_
    have h_47 := ir_41_5 hI_42
    have h_48 := ir_1_2 hI_13
    have h_49 := ir_41_4 hI_42
    have h_50 := ir_41_6 hI_42
    have h_51 := rt_bad hR_45 (by omega)
    have hrb_hR_45 := rt_bad hR_45 (by omega)
    refine v_gi (z := 5) (v := c_12 1 5) rfl rfl rfl (by decide) rfl rfl hrb_hR_45.2.1 ?_
    refine v_pi (z := 8) rfl rfl rfl (by decide) rfl rfl rfl (by decide) ?_
    refine q_aload_n rfl rfl ?_
    refine v_cv rfl rfl rfl rfl (by decide) ⟨⟨rfl, rfl⟩, by decide, rfl⟩ (Nat.le_of_ble_eq_true rfl) (Nat.le_of_ble_eq_true rfl) ?_
    refine q_aload_n rfl rfl ?_
    refine v_gi (z := 5) (v := c_12 1 5) rfl rfl rfl (by decide) rfl rfl (((up_n (by decide))).trans (hrb_hR_45.2.1)) ?_
    refine q_iconst rfl ?_
    refine v_ic_ne_t (t := 12) rfl (by decide) (by omega) ?_
    refine q_iconst rfl ?_
    refine v_zret rfl rfl (by decide) ?_
    refine bk_inl ?_
    refine v_if_eq_t (t := 19) rfl (by decide) (by decide) ?_
    refine q_aload_n rfl rfl ?_
    refine v_gi (z := 6) (v := c_12 1 4) rfl rfl rfl (by decide) rfl rfl (((up_n (by decide))).trans (hrb_hR_45.2.2.2)) ?_
    refine v_bip rfl (by decide) ?_
    refine v_isub (v := c_12 1 4 - 10) rfl (by omega) ?_
    refine q_iret rfl rfl ?_
    refine bk_inl ?_
    refine q_istore_n rfl (by decide) ?_
    refine q_aload_n rfl rfl ?_
    refine v_gi (z := 5) (v := c_12 1 5) rfl rfl rfl (by decide) rfl rfl (((up_n (by decide))).trans (hrb_hR_45.2.1)) ?_
    refine q_iconst rfl ?_
    refine v_ic_eq_f (t := 119) rfl (by decide) (by omega) ?_
    refine q_iload_n rfl rfl ?_
    refine q_iret rfl rfl ?_
    have hI_52 := iw_41_8 (v := c_12 1 5) hI_42 ⟨by omega, by omega⟩
    have kn_53 : Hid (c_41 41 2 = c_25 41 2) := hF_43 41 2 (fun q => q.elim (fun h => absurd h.2 (ni rfl)) (fun q => q.elim (fun h => absurd h.2 (ni rfl)) (fun q => q.elim (fun h => absurd h.2 (ni rfl)) (fun h => absurd h (nn rfl)))))
    have h_54 : (up c_41 41 8 (c_12 1 5)) 41 2 = c_25 41 2 := ((up_n (by decide)).trans (hid kn_53))
    have h_55 : (up c_41 41 8 (c_12 1 5)) 41 8 = c_12 1 5 := (up_e rfl)
    have kn_56 : Hid (c_25 41 0 = 0) := (hF_27 41 0 (fun q => q.elim (fun h => absurd h.2 (ni rfl)) (fun q => q.elim (fun h => absurd h.2 (ni rfl)) (fun q => q.elim (fun h => absurd h.2 (ni rfl)) (fun q => q.elim (fun h => absurd h.2 (ni rfl)) (fun q => q.elim (fun h => absurd h.2 (ni rfl)) (fun h => absurd h.2 (ni rfl)))))))).trans (up_e rfl)
    have kn_57 : Hid (c_41 41 0 = 0) := (hF_43 41 0 (fun q => q.elim (fun h => absurd h.2 (ni rfl)) (fun q => q.elim (fun h => absurd h.2 (ni rfl)) (fun q => q.elim (fun h => absurd h.2 (ni rfl)) (fun h => absurd h (nn rfl)))))).trans (hid kn_56)
    have h_58 : (up c_41 41 8 (c_12 1 5)) 41 0 = 0 := ((up_n (by decide)).trans (hid kn_57))
    exact K (up c_41 41 8 (c_12 1 5)) (c_12 1 4 - 10) hI_52 (fun a j hm => (up_b (Decidable.or_iff_not_imp_left.mpr (fun h1 h2 => hm (Or.inr (Or.inr (Or.inr (Or.inr (Or.inr (Or.inr (Or.inr (Or.inr (Or.inl ⟨Decidable.not_not.mp h1, h2⟩)))))))))))).trans ((hF_43 a j (fun q => q.elim (fun h => hm (Or.inr (Or.inr (Or.inr (Or.inr (Or.inl h)))))) (fun q => q.elim (fun h => hm (Or.inr (Or.inr (Or.inr (Or.inr (Or.inr (Or.inl h))))))) (fun q => q.elim (fun h => hm (Or.inr (Or.inr (Or.inr (Or.inr (Or.inr (Or.inr (Or.inl h)))))))) (fun h => hm (Or.inr (Or.inr (Or.inr (Or.inr (Or.inr (Or.inr (Or.inr (Or.inr (Or.inr (Or.inr (Or.inl h)))))))))))))))).trans ((hF_27 a j (fun q => q.elim (fun h => hm (Or.inr (Or.inr (Or.inl h)))) (fun q => q.elim (fun h => hm (Or.inr (Or.inr (Or.inr (Or.inl h))))) (fun q => q.elim (fun h => hm (Or.inr (Or.inr (Or.inr (Or.inr (Or.inl h)))))) (fun q => q.elim (fun h => hm (Or.inr (Or.inr (Or.inr (Or.inr (Or.inr (Or.inl h))))))) (fun q => q.elim (fun h => hm (Or.inr (Or.inr (Or.inr (Or.inr (Or.inr (Or.inr (Or.inr (Or.inl h))))))))) (fun h => hm (Or.inr (Or.inr (Or.inr (Or.inr (Or.inr (Or.inr (Or.inr (Or.inr (Or.inl h)))))))))))))))).trans (up_b (Decidable.or_iff_not_imp_left.mpr (fun h1 h2 => hm (Or.inl ⟨Decidable.not_not.mp h1, h2⟩))))))) ⟨by omega, by omega⟩ (by omega) (by omega) (by omega) (by omega)
  · refine v_if_ne_f (t := 11) rfl (by decide) (by omega) ?_
    refine q_iconst rfl ?_
    refine q_goto (t := 12) rfl (by decide) ?_
    refine v_zret rfl rfl (by decide) ?_
    refine bk_inl ?_
    refine v_if_eq_f (t := 14) rfl (by decide) (by decide) ?_
    refine q_iload_n rfl rfl ?_
    refine q_goto (t := 24) rfl (by decide) ?_
    refine q_iret rfl rfl ?_
    refine bk_inl ?_
    refine q_iret rfl rfl ?_
    intro hE_59
    have h_60 : yg = c_12 P 4 := (vi_inj ⟨by omega, by omega⟩ ⟨by omega, by omega⟩ (Option.some.inj (Sum.inl.inj (Prod.mk.inj hE_59).1))).symm
    have hW : Wd P Q P P c_12 = Wd P Q P P m9 := (Prod.mk.inj (Prod.mk.inj hE_59).2).1
    have h_61 := ir_1_5 hI_13
    have h_62 := ir_1_5 hJ9
    have h_63 : m9 1 5 = c_12 1 5 := wd_fv (z := 5) 5 rfl hW rfl rfl rfl rfl (by decide) rfl ⟨by omega, by omega⟩ ⟨by omega, by omega⟩
    refine q_aload_n rfl rfl ?_
    refine q_iconst rfl ?_
    refine v_pi (z := 0) rfl rfl rfl (by decide) rfl rfl rfl (by decide) ?_
    refine q_aload_n rfl rfl ?_
    refine q_iload_n rfl rfl ?_
    refine v_cv rfl rfl rfl rfl (by decide) ⟨⟨rfl, rfl⟩, by decide, rfl⟩ (Nat.le_of_ble_eq_true rfl) (Nat.le_of_ble_eq_true rfl) ?_
    refine q_aload_n rfl rfl ?_
    refine q_iload_n rfl rfl ?_
    refine v_if_lt_f (t := 23) rfl (by decide) (by omega) ?_
    refine q_iload_n rfl rfl ?_
    refine q_aload_n rfl rfl ?_
    refine v_gi (z := 2) (v := t9) rfl rfl rfl (by decide) rfl rfl ((up_n (by decide)).trans (hr_t9)) ?_
    refine v_ic_gt_f (t := 23) rfl (by decide) (by omega) ?_
    refine q_iload_n rfl rfl ?_
    refine v_bip rfl (by decide) ?_
    refine v_ic_gt_f (t := 23) rfl (by decide) (by omega) ?_
    refine q_iconst rfl ?_
    refine q_goto (t := 24) rfl (by decide) ?_
    refine q_iconst rfl ?_
    refine q_iconst rfl ?_
    refine v_cv rfl rfl rfl rfl (by decide) ⟨⟨rfl, rfl⟩, by decide, rfl⟩ (Nat.le_of_ble_eq_true rfl) (Nat.le_of_ble_eq_true rfl) ?_
    refine q_iload_n rfl rfl ?_
    refine v_if_ne_t (t := 26) rfl (by decide) (by decide) ?_
    refine q_aload_n rfl rfl ?_
    refine v_gi (z := 0) (v := 0) rfl rfl rfl (by decide) rfl rfl (up_e rfl) ?_
    refine v_if_ne_f (t := 37) rfl (by decide) (by decide) ?_
    refine q_iconst rfl ?_
    refine q_goto (t := 38) rfl (by decide) ?_
    refine v_zret rfl rfl (by decide) ?_
    refine bk_inl ?_
    refine v_zret rfl rfl (by decide) ?_
    refine bk_inl ?_
    refine v_if_ne_t (t := 15) rfl (by decide) (by decide) ?_
    refine q_aload_n rfl rfl ?_
    refine q_iload_n rfl rfl ?_
    have hI_64 := iw_41_0 (v := 0) hI ⟨by decide, by decide⟩
    refine v_cv rfl rfl rfl rfl (by decide) ⟨⟨rfl, rfl⟩, by decide, rfl⟩ (Nat.le_of_ble_eq_true rfl) (Nat.le_of_ble_eq_true rfl) (s_163 (a1 := a1) hI_64 (show 0 ≤ a1 ∧ a1 ≤ 600 from by omega) (fun c_65 hI_66 hF_67 h_68 => ?_))
    refine bk_inl ?_
    have h_69 := ir_41_2 hI_66
    have h_70 := ir_41_3 hI_66
    have h_71 := ir_41_4 hI_66
    have h_72 := ir_41_5 hI_66
    have h_73 := ir_41_7 hI_66
    refine q_iconst rfl ?_
    refine q_istore_n rfl (by decide) ?_
    refine Wp_ls [(0, .ref 41), (1, vi a1), (2, vi 0)] (lsub_cons rfl (lsub_cons rfl (lsub_cons rfl lsub_nil))) ?_
    have kn_74 : Hid (c_65 41 22 = si) := (hF_67 41 22 (fun q => q.elim (fun h => absurd h.2 (ni rfl)) (fun q => q.elim (fun h => absurd h.2 (ni rfl)) (fun q => q.elim (fun h => absurd h.2 (ni rfl)) (fun q => q.elim (fun h => absurd h.2 (ni rfl)) (fun q => q.elim (fun h => absurd h.2 (ni rfl)) (fun h => absurd h.2 (ni rfl)))))))).trans ((up_n (by decide)).trans (hr_si))
    have h_75 : (up (up (up (up (up m 1 1 y_6) 1 2 0) 1 3 0) 1 4 0) 1 5 (-1)) 1 4 = 0 := ((up_n (by decide)).trans (up_e rfl))
    have h_76 : (up (up (up (up (up m 1 1 y_6) 1 2 0) 1 3 0) 1 4 0) 1 5 (-1)) 1 2 = 0 := ((up_n (by decide)).trans ((up_n (by decide)).trans ((up_n (by decide)).trans (up_e rfl))))
    have h_77 : (up (up (up (up (up m 1 1 y_6) 1 2 0) 1 3 0) 1 4 0) 1 5 (-1)) 1 5 = (-1) := (up_e rfl)
    have h_78 := ir_41_6 hI
    have kn_79 : Hid (c_65 41 6 = c 41 6) := (hF_67 41 6 (fun q => q.elim (fun h => absurd h.2 (ni rfl)) (fun q => q.elim (fun h => absurd h.2 (ni rfl)) (fun q => q.elim (fun h => absurd h.2 (ni rfl)) (fun q => q.elim (fun h => absurd h.2 (ni rfl)) (fun q => q.elim (fun h => absurd h.2 (ni rfl)) (fun h => absurd h.2 (ni rfl)))))))).trans (up_n (by decide))
    have h_80 : c_65 41 6 = c 41 6 := (hid kn_79)
    refine L_35 (m := up (up (up (up (up m 1 1 y_6) 1 2 0) 1 3 0) 1 4 0) 1 5 (-1)) (a1 := a1) (e1 := y_6) (f0 := 0) (g0 := (-1)) (si := si) (F := F) (H := H) hI_66 hI_11 hI_13 hP (show (-2147483648) ≤ a1 ∧ a1 ≤ 2147483647 from by omega) (by omega) (by omega) (((up_n (by decide)).trans ((up_n (by decide)).trans ((up_n (by decide)).trans ((up_n (by decide)).trans (up_e rfl)))))) (((show _ = c_65 41 3 from rfl).trans (by omega))) (((up_n (by decide)).trans (up_e rfl))) ((up_e rfl)) (((up_c (np0 hP rfl)).trans ((up_c (np0 hP rfl)).trans ((up_c (np0 hP rfl)).trans ((up_c (np0 hP rfl)).trans ((up_c (np0 hP rfl)).trans (hg_si))))))) ((hid kn_74)) (fun j => ((up_c (nn rfl)).trans ((up_c (nn rfl)).trans ((up_c (nn rfl)).trans ((up_c (nn rfl)).trans (up_c (nn rfl)))))).trans (hF j)) (fun j => ((hF_67 43 j (fun q => q.elim (fun h => absurd h.1 (nn rfl)) (fun q => q.elim (fun h => absurd h.1 (nn rfl)) (fun q => q.elim (fun h => absurd h.1 (nn rfl)) (fun q => q.elim (fun h => absurd h.1 (nn rfl)) (fun q => q.elim (fun h => absurd h.1 (nn rfl)) (fun h => absurd h.1 (nn rfl)))))))).trans (up_c (nn rfl))).trans (hH j)) hU (by unfold Rt; omega) hG_15 (fun c_81 y_84 hI_82 hF_83 hy_84 hR_85 h_86 => ?_)
    refine q_aload_n rfl rfl ?_
    refine q_iload_n rfl rfl ?_
    refine v_cv rfl rfl rfl rfl (by decide) ⟨⟨rfl, rfl⟩, by decide, rfl⟩ (Nat.le_of_ble_eq_true rfl) (Nat.le_of_ble_eq_true rfl) ?_
    refine q_aload_n rfl rfl ?_
    refine q_aload_n rfl rfl ?_
    have h_87 := ir_41_5 hI_82
    have h_88 := ir_1_2 hI_13
    have h_89 := ir_41_4 hI_82
    have h_90 := ir_41_6 hI_82
    have h_91 := rt_ok hR_85 (by omega)
    have hro_hR_85 := rt_ok hR_85 (by omega)
    refine v_gi (z := 5) (v := (-1)) rfl rfl rfl (by decide) rfl rfl hro_hR_85.2.1 ?_
    refine v_pi (z := 8) rfl rfl rfl (by decide) rfl rfl rfl (by decide) ?_
    refine q_aload_n rfl rfl ?_
    refine v_cv rfl rfl rfl rfl (by decide) ⟨⟨rfl, rfl⟩, by decide, rfl⟩ (Nat.le_of_ble_eq_true rfl) (Nat.le_of_ble_eq_true rfl) ?_
    refine q_aload_n rfl rfl ?_
    refine v_gi (z := 5) (v := (-1)) rfl rfl rfl (by decide) rfl rfl (((up_n (by decide))).trans (hro_hR_85.2.1)) ?_
    refine q_iconst rfl ?_
    refine v_ic_ne_f (t := 12) rfl (by decide) (by decide) ?_
    refine q_iconst rfl ?_
    refine q_goto (t := 13) rfl (by decide) ?_
    refine v_zret rfl rfl (by decide) ?_
    refine bk_inl ?_
    refine v_if_eq_f (t := 19) rfl (by decide) (by decide) ?_
    refine q_iload_n rfl rfl ?_
    refine q_goto (t := 26) rfl (by decide) ?_
    refine q_iret rfl rfl ?_
    refine bk_inl ?_
    refine q_istore_n rfl (by decide) ?_
    refine q_aload_n rfl rfl ?_
    refine v_gi (z := 5) (v := (-1)) rfl rfl rfl (by decide) rfl rfl (((up_n (by decide))).trans (hro_hR_85.2.1)) ?_
    refine q_iconst rfl ?_
    refine v_ic_eq_t (t := 119) rfl (by decide) (by decide) ?_
    refine q_aload_n rfl rfl ?_
    refine q_iload_n rfl rfl ?_
    refine v_pi (z := 47) rfl rfl rfl (by decide) rfl rfl rfl (by decide) ?_
    refine q_aload_n rfl rfl ?_
    refine q_aload_n rfl rfl ?_
    refine v_gr (t := 61) rfl rfl rfl (by decide) rfl ?_
    refine q_aload_n rfl rfl ?_
    refine v_gr (t := 62) rfl rfl rfl (by decide) rfl ?_
    refine v_bip rfl (by decide) ?_
    refine v_cv rfl rfl rfl rfl (by decide) ⟨⟨rfl, rfl⟩, by decide, rfl⟩ (Nat.le_of_ble_eq_true rfl) (Nat.le_of_ble_eq_true rfl) (s_148 (f := 61) (t := 62) (nf := 8) (nt := 8) (n := 8) rfl rfl (by decide) (by decide) (by decide) (by decide) (by decide) (by omega) ?_)
    refine bk_inl ?_
    refine q_iload_n rfl rfl ?_
    refine q_iret rfl rfl ?_
    have hI_92 := iw_41_8 (v := (-1)) hI_82 ⟨by decide, by decide⟩
    have hI_93 := iw_41_47 (v := y_84) hI_92 ⟨by omega, by omega⟩
    have hI_94 := cp_61_62 hI_93
    have kn_95 : Hid (c_81 41 2 = c_65 41 2) := hF_83 41 2 (fun q => q.elim (fun h => absurd h.2 (ni rfl)) (fun q => q.elim (fun h => absurd h.2 (ni rfl)) (fun q => q.elim (fun h => absurd h.2 (ni rfl)) (fun h => absurd h (nn rfl)))))
    have h_96 : (upc (up (up c_81 41 8 (-1)) 41 47 y_84) 61 0 62 0 8) 41 2 = c_65 41 2 := ((upc_c (by omega)).trans ((up_n (by decide)).trans ((up_n (by decide)).trans (hid kn_95))))
    have h_97 : (upc (up (up c_81 41 8 (-1)) 41 47 y_84) 61 0 62 0 8) 41 8 = (-1) := ((upc_c (by omega)).trans ((up_n (by decide)).trans (up_e rfl)))
    have kn_98 : Hid (c_65 41 0 = 0) := (hF_67 41 0 (fun q => q.elim (fun h => absurd h.2 (ni rfl)) (fun q => q.elim (fun h => absurd h.2 (ni rfl)) (fun q => q.elim (fun h => absurd h.2 (ni rfl)) (fun q => q.elim (fun h => absurd h.2 (ni rfl)) (fun q => q.elim (fun h => absurd h.2 (ni rfl)) (fun h => absurd h.2 (ni rfl)))))))).trans (up_e rfl)
    have kn_99 : Hid (c_81 41 0 = 0) := (hF_83 41 0 (fun q => q.elim (fun h => absurd h.2 (ni rfl)) (fun q => q.elim (fun h => absurd h.2 (ni rfl)) (fun q => q.elim (fun h => absurd h.2 (ni rfl)) (fun h => absurd h (nn rfl)))))).trans (hid kn_98)
    have h_100 : (upc (up (up c_81 41 8 (-1)) 41 47 y_84) 61 0 62 0 8) 41 0 = 0 := ((upc_c (by omega)).trans ((up_n (by decide)).trans ((up_n (by decide)).trans (hid kn_99))))
    exact K (upc (up (up c_81 41 8 (-1)) 41 47 y_84) 61 0 62 0 8) y_84 hI_94 (fun a j hm => (upc_c (fun h => hm (Or.inr (Or.inr (Or.inr (Or.inr (Or.inr (Or.inr (Or.inr (Or.inr (Or.inr (Or.inr (Or.inr h))))))))))))).trans ((up_b (Decidable.or_iff_not_imp_left.mpr (fun h1 h2 => hm (Or.inr (Or.inr (Or.inr (Or.inr (Or.inr (Or.inr (Or.inr (Or.inr (Or.inr (Or.inl ⟨Decidable.not_not.mp h1, h2⟩))))))))))))).trans ((up_b (Decidable.or_iff_not_imp_left.mpr (fun h1 h2 => hm (Or.inr (Or.inr (Or.inr (Or.inr (Or.inr (Or.inr (Or.inr (Or.inr (Or.inl ⟨Decidable.not_not.mp h1, h2⟩)))))))))))).trans ((hF_83 a j (fun q => q.elim (fun h => hm (Or.inr (Or.inr (Or.inr (Or.inr (Or.inl h)))))) (fun q => q.elim (fun h => hm (Or.inr (Or.inr (Or.inr (Or.inr (Or.inr (Or.inl h))))))) (fun q => q.elim (fun h => hm (Or.inr (Or.inr (Or.inr (Or.inr (Or.inr (Or.inr (Or.inl h)))))))) (fun h => hm (Or.inr (Or.inr (Or.inr (Or.inr (Or.inr (Or.inr (Or.inr (Or.inr (Or.inr (Or.inr (Or.inl h)))))))))))))))).trans ((hF_67 a j (fun q => q.elim (fun h => hm (Or.inr (Or.inr (Or.inl h)))) (fun q => q.elim (fun h => hm (Or.inr (Or.inr (Or.inr (Or.inl h))))) (fun q => q.elim (fun h => hm (Or.inr (Or.inr (Or.inr (Or.inr (Or.inl h)))))) (fun q => q.elim (fun h => hm (Or.inr (Or.inr (Or.inr (Or.inr (Or.inr (Or.inl h))))))) (fun q => q.elim (fun h => hm (Or.inr (Or.inr (Or.inr (Or.inr (Or.inr (Or.inr (Or.inr (Or.inl h))))))))) (fun h => hm (Or.inr (Or.inr (Or.inr (Or.inr (Or.inr (Or.inr (Or.inr (Or.inr (Or.inl h)))))))))))))))).trans (up_b (Decidable.or_iff_not_imp_left.mpr (fun h1 h2 => hm (Or.inl ⟨Decidable.not_not.mp h1, h2⟩))))))))) ⟨by omega, by omega⟩ (by omega) (by omega) (by omega) (by omega)
