/-! ===== class and reference side by side 6 ===== -/
set_option maxRecDepth 100000 in
set_option maxHeartbeats 4000000 in
theorem L_14_c {sc : List Int32} {e eg : Int} {d dh u ug P Q P2 Q2 A : Nat} {c m m9 : ME} {a2 e1 f0 g0 p0 n0 o0 : Int} {F H : Int → Int} {Z : AR → Prop} (hI : Iv u e P2 Q2 c) (hJ : Iv ug eg P Q m) (hJ9 : Iv ug eg P Q m9) (hA : A = 13 ∨ A = 25) (ha2 : 0 ≤ a2 ∧ a2 ≤ 6) (hq0 : (f0 = 0)) (hq1 : (g0 = (-1))) (hq2 : (o0 = a2)) (hq3 : (n0 ≤ p0)) (hq4 : (p0 ≤ e1)) (hq5 : (e1 ≤ 150)) (hq6 : ((nx F e1 p0) ≥ e1) ∨ ((F (nx F e1 p0)) < 48) ∨ ((F (nx F e1 p0)) > 57)) (hq7 : ((nx F e1 p0) ≥ e1) ∨ ((F (nx F e1 p0)) < 40) ∨ ((F (nx F e1 p0)) > 40)) (hq8 : ((wd1_0 F (nx F e1 p0) (ln F e1 (nx F e1 p0))) = (-1))) (hg_e1 : m 1 1 = e1) (hr_e1 : c 41 3 = e1) (hg_f0 : m 1 4 = f0) (hg_g0 : m 1 5 = g0) (hg_p0 : m 1 2 = p0) (hg_n0 : m (A + 7) 5 = n0) (hr_n0 : c 41 29 = n0) (hr_o0 : c 41 7 = o0) (hF : ∀ j : Int, m 2 j = F j) (hH : ∀ j : Int, c 43 j = H j) (hU : Ub F H) (hRt : Rt m c) (hr0 : Ce n0 (m (A + 9)) (c 50) (c 51)) (H13 : ∀ {d9 : Nat} {c m m9 : ME} {e1 f0 g0 p0 n0 o0 : Int} {Z : AR → Prop}, d ≤ d9 → a2 + 1 ≤ 6 → (Iv u e P2 Q2 c) → (Iv ug eg P Q m) → (Iv ug eg P Q m9) → (0 ≤ (a2 + 1) ∧ (a2 + 1) ≤ 6) → ((f0 = 0)) → ((g0 = (-1))) → ((o0 = (a2 + 1))) → ((n0 ≤ p0)) → ((p0 ≤ e1)) → ((e1 ≤ 150)) → (m 1 1 = e1) → (c 41 3 = e1) → (m 1 4 = f0) → (m 1 5 = g0) → (m 1 2 = p0) → (m (A + 7) 5 = n0) → (c 41 29 = n0) → (c 41 7 = o0) → (∀ j : Int, m 2 j = F j) → (∀ j : Int, c 43 j = H j) → (Ub F H) → (Rt m c) → (Ce n0 (m (A + 9)) (c 50) (c 51)) → (Wp sc (dh + 33) 13 0 [(0, .ref (A + 7)), (1, .ref 1), (2, vi (a2 + 1))] [] (Wd P Q P P m) 0 0 (fun q => q = (.inl (none), Wd P Q P P m9, 0, 0))) → (∀ (c2 : ME), Iv u e P2 Q2 c2 → (∀ (a : Nat) (j : Int), ¬ ((a = 41 ∧ j = 4) ∨ (a = 41 ∧ j = 5) ∨ (a = 41 ∧ j = 6) ∨ (a = 41 ∧ j = 7) ∨ (a = 41 ∧ j = 29) ∨ a = 50 ∨ a = 51) → c2 a j = c a j) → (Rt m9 c2) → ((m9 1 4 < 0) ∨ (m9 1 4 > 0) ∨ (m9 (A + 7) 5 = c2 41 29 ∧ c2 41 29 + p0 ≤ m9 1 2 + n0 ∧ m9 1 2 ≤ e1 ∧ m9 1 2 ≥ p0)) → ((c2 41 7 = (a2 + 1))) → (m9 1 4 = 0 → Ce (c2 41 29) (m9 (A + 9)) (c2 50) (c2 51)) → Z (.inl (none), Wd P2 Q2 P2 P2 c2, 0, 0)) → Wp sc (d9 + 32) 174 0 [(0, .ref 41)] [] (Wd P2 Q2 P2 P2 c) 0 0 Z) (hG : Wp sc (dh + 34) 14 0 [(0, .ref (A + 7)), (1, .ref 1), (2, vi a2)] [] (Wd P Q P P m) 0 0 (fun q => q = (.inl (none), Wd P Q P P m9, 0, 0))) (K : ∀ (c2 : ME), Iv u e P2 Q2 c2 → (∀ (a : Nat) (j : Int), ¬ ((a = 41 ∧ j = 4) ∨ (a = 41 ∧ j = 5) ∨ (a = 41 ∧ j = 6) ∨ (a = 41 ∧ j = 7) ∨ (a = 41 ∧ j = 29) ∨ a = 50 ∨ a = 51) → c2 a j = c a j) → (Rt m9 c2) → ((m9 1 4 < 0) ∨ (m9 1 4 > 0) ∨ (m9 (A + 7) 5 = c2 41 29 ∧ c2 41 29 + p0 ≤ m9 1 2 + n0 ∧ m9 1 2 ≤ e1 ∧ m9 1 2 ≥ p0)) → ((c2 41 7 = a2)) → (m9 1 4 = 0 → Ce (c2 41 29) (m9 (A + 9)) (c2 50) (c2 51)) → Z (.inl (none), Wd P2 Q2 P2 P2 c2, 0, 0)) : Wp sc (d + 34) 176 0 [(0, .ref 41)] [] (Wd P2 Q2 P2 P2 c) 0 0 Z := by
  have hP := iv_P hJ
  have hQ := iv_Q hJ
  have h_1 := ir_1_1 hJ
  have h_2 := ir_41_3 hI
  have h_3 := ir_1_4 hJ
  have h_4 := ir_1_5 hJ
  have h_5 := ir_1_2 hJ
  have h_6 := ir_p7_5 hJ hA
  have h_7 := ir_41_29 hI
  have h_8 := ir_41_7 hI
  refine gh hG ?_
  refine q_aload_n rfl rfl ?_
  have h_9 : -2147483648 ≤ (F p0) ∧ (F p0) ≤ 2147483647 := by rw [← hF p0]; exact ir_2 hJ p0
  have h_10 := nx_be (b := F) (e := e1) (a := p0) (by first | (clear ha2 hq0 hq1 hq2 hq3 hq5 hq8 h_1 h_2 h_3 h_4 h_5 h_6 h_7 h_8 h_9 hq6 hq7; omega) | omega)
  have h_11 : -2147483648 ≤ (F (nx F e1 p0)) ∧ (F (nx F e1 p0)) ≤ 2147483647 := by rw [← hF (nx F e1 p0)]; exact ir_2 hJ (nx F e1 p0)
  have h_12 := nx_n (b := F) (e := e1) (a := p0)
  refine v_cv rfl rfl rfl rfl (by decide) ⟨⟨rfl, rfl⟩, by decide, rfl⟩ (Nat.le_of_ble_eq_true rfl) (Nat.le_of_ble_eq_true rfl) (f_6 (e1 := e1) (a9 := p0) (B := F) (r8 := (nx F e1 p0)) hJ ((hg_e1)) ((hg_p0)) (fun j => hF j) rfl (fun c_13 hI_14 hF_15 h_16 hz_17 => by exfalso; omega) (fun c_18 hI_19 hF_20 h_21 hz_22 => ?_))
  refine bk_inl ?_
  refine v_if_eq_t (t := 19) rfl (by decide) (by decide) ?_
  refine q_aload_n rfl rfl ?_
  have kn_23 : Hid (c_18 1 1 = e1) := (hF_20 1 1 (fun h => absurd h.2 (ni rfl))).trans (hg_e1)
  refine v_cv rfl rfl rfl rfl (by decide) ⟨⟨rfl, rfl⟩, by decide, rfl⟩ (Nat.le_of_ble_eq_true rfl) (Nat.le_of_ble_eq_true rfl) (f_3 (e1 := e1) (a9 := (nx F e1 p0)) (B := F) (r8 := (nx F e1 p0)) hI_19 ((hid kn_23)) ((hz_22)) (fun j => (hF_20 2 j (fun h => absurd h.1 (nn rfl))).trans (hF j)) (nx_z (by omega)) (fun c_24 hI_25 hF_26 hz_27 => ?_))
  refine bk_inl ?_
  refine q_istore_n rfl (by decide) ?_
  refine q_aload_n rfl rfl ?_
  refine q_ldc_s rfl rfl rfl (by decide) ?_
  have kn_28 : Hid (c_24 1 1 = e1) := (hF_26 1 1 (fun h => absurd h.2 (ni rfl))).trans (hid kn_23)
  refine v_cv rfl rfl rfl rfl (by decide) ⟨⟨rfl, rfl⟩, by decide, rfl⟩ (Nat.le_of_ble_eq_true rfl) (Nat.le_of_ble_eq_true rfl) (f_4_0 (e1 := e1) (a9 := (nx F e1 p0)) (B := F) (r8 := (nx F e1 p0)) hI_25 ((hid kn_28)) ((hz_27)) (fun j => ((hF_26 2 j (fun h => absurd h.1 (nn rfl))).trans (hF_20 2 j (fun h => absurd h.1 (nn rfl)))).trans (hF j)) (nx_z (by omega)) (fun c_29 hI_30 hF_31 h_32 hz_33 => by exfalso; omega) (fun c_34 hI_35 hF_36 h_37 hz_38 => ?_))
  refine bk_inl ?_
  refine q_iconst rfl ?_
  refine v_ic_eq_t (t := 38) rfl (by decide) (by decide) ?_
  refine q_iconst rfl ?_
  refine q_istore rfl (by decide) ?_
  refine q_iload rfl rfl ?_
  refine v_if_eq_t (t := 50) rfl (by decide) (by decide) ?_
  refine q_aload_n rfl rfl ?_
  refine q_ldc_s rfl rfl rfl (by decide) ?_
  have kn_39 : Hid (c_34 1 1 = e1) := (hF_36 1 1 (fun h => absurd h.2 (ni rfl))).trans (hid kn_28)
  have kn_40 : Hid (c_18 1 4 = f0) := (hF_20 1 4 (fun h => absurd h.2 (ni rfl))).trans (hg_f0)
  have kn_41 : Hid (c_24 1 4 = f0) := (hF_26 1 4 (fun h => absurd h.2 (ni rfl))).trans (hid kn_40)
  have kn_42 : Hid (c_34 1 4 = f0) := (hF_36 1 4 (fun h => absurd h.2 (ni rfl))).trans (hid kn_41)
  have kn_43 : Hid (c_18 1 5 = g0) := (hF_20 1 5 (fun h => absurd h.2 (ni rfl))).trans (hg_g0)
  have kn_44 : Hid (c_24 1 5 = g0) := (hF_26 1 5 (fun h => absurd h.2 (ni rfl))).trans (hid kn_43)
  have kn_45 : Hid (c_34 1 5 = g0) := (hF_36 1 5 (fun h => absurd h.2 (ni rfl))).trans (hid kn_44)
  have h_46 := ln_be (b := F) (e := e1) (a := (nx F e1 p0)) (by first | (clear ha2 hq0 hq1 hq2 hq3 hq4 hq5 hq8 h_1 h_2 h_3 h_4 h_5 h_6 h_7 h_8 h_9 h_11 hq6 hq7 h_12 h_21 h_37; omega) | omega)
  refine v_cv rfl rfl rfl rfl (by decide) ⟨⟨rfl, rfl⟩, by decide, rfl⟩ (Nat.le_of_ble_eq_true rfl) (Nat.le_of_ble_eq_true rfl) (f_10_1 (e1 := e1) (a9 := (nx F e1 p0)) (f9 := f0) (p9 := g0) (B := F) (r8 := (nx F e1 p0)) (L8 := (ln F e1 (nx F e1 p0))) (W8 := (wd1_0 F (nx F e1 p0) (ln F e1 (nx F e1 p0)))) hI_35 ((hid kn_39)) ((hz_38)) ((hid kn_42)) ((hid kn_45)) (fun j => ((hF_36 2 j (fun h => absurd h.1 (nn rfl))).trans ((hF_26 2 j (fun h => absurd h.1 (nn rfl))).trans (hF_20 2 j (fun h => absurd h.1 (nn rfl))))).trans (hF j)) (nx_z (by omega)) rfl rfl (fun c_47 hI_48 hF_49 h_50 hz_51 hz_52 hz_53 => by exfalso; omega) (fun c_54 hI_55 hF_56 h_57 h_58 hz_59 hz_60 hz_61 => ?_) (fun c_62 hI_63 hF_64 h_65 h_66 hz_67 hz_68 hz_69 => by exfalso; first | (clear ha2 hq0 hq1 hq2 hq3 hq4 hq5 h_1 h_2 h_3 h_4 h_5 h_6 h_7 h_8 h_9 h_10 h_11 h_46 hq6 hq7 h_12 h_21 h_37; omega) | omega))
  refine bk_inl ?_
  refine q_istore rfl (by decide) ?_
  refine q_iload rfl rfl ?_
  refine q_iconst rfl ?_
  refine v_ic_eq_t (t := 82) rfl (by decide) (by decide) ?_
  refine q_iload_n rfl rfl ?_
  refine v_bip rfl (by decide) ?_
  by_cases h_70 : a2 < 6
  · refine v_ic_lt_t (t := 94) rfl (by decide) ⟨(Int.le_trans (by decide) ha2.1), h_70, by decide⟩ ?_
    refine q_aload_n rfl rfl ?_
    refine v_cv rfl rfl rfl rfl (by decide) ⟨⟨rfl, rfl⟩, by decide, rfl⟩ (Nat.le_of_ble_eq_true rfl) (Nat.le_of_ble_eq_true rfl) ?_
    refine q_aload_n rfl rfl ?_
    refine v_gi (z := 4) (v := 1) rfl rfl rfl (by decide) rfl rfl (hz_60) ?_
    refine v_if_ne_t (t := 11) rfl (by decide) (by decide) ?_
    refine q_iconst rfl ?_
    refine v_zret rfl rfl (by decide) ?_
    refine bk_inl ?_
    refine v_if_ne_f (t := 102) rfl (by decide) (by decide) ?_
    refine q_vret rfl rfl ?_
    intro hE_71
    have hW : Wd P Q P P c_54 = Wd P Q P P m9 := (Prod.mk.inj (Prod.mk.inj hE_71).2).1
    have h_72 := ir_1_4 hJ9
    have h_73 : m9 1 4 = 1 := wd_fv (z := 4) 4 rfl hW rfl rfl rfl rfl (by decide) (hz_60) ⟨by decide, by decide⟩ ⟨(Int.le_trans (by decide) h_72.1), (Int.le_trans h_72.2 (by decide))⟩
    have h_74 := ir_1_2 hJ9
    have h_75 : m9 1 2 = (nx F e1 p0) := wd_fv (z := 2) 2 rfl hW rfl rfl rfl rfl (by decide) (hz_59) ⟨(Int.le_trans (by decide) (rg_be h_10 ((rg_eq hg_p0 h_5).1) ((rg_eq hg_e1 h_1).2)).1), (Int.le_trans (rg_be h_10 ((rg_eq hg_p0 h_5).1) ((rg_eq hg_e1 h_1).2)).2 (by decide))⟩ ⟨(Int.le_trans (by decide) h_74.1), (Int.le_trans h_74.2 (by decide))⟩
    have h_76 := ir_1_5 hJ9
    have h_77 : m9 1 5 = (nx F e1 p0) := wd_fv (z := 5) 5 rfl hW rfl rfl rfl rfl (by decide) (hz_61) ⟨(Int.le_trans (by decide) (rg_be h_10 ((rg_eq hg_p0 h_5).1) ((rg_eq hg_e1 h_1).2)).1), (Int.le_trans (rg_be h_10 ((rg_eq hg_p0 h_5).1) ((rg_eq hg_e1 h_1).2)).2 (by decide))⟩ ⟨(Int.le_trans (by decide) h_76.1), (Int.le_trans h_76.2 (by decide))⟩
    have kn_78 : Hid (c_18 (A + 7) 5 = n0) := (hF_20 (A + 7) 5 (fun h => absurd h.1 (np hA rfl rfl))).trans (hg_n0)
    have kn_79 : Hid (c_24 (A + 7) 5 = n0) := (hF_26 (A + 7) 5 (fun h => absurd h.1 (np hA rfl rfl))).trans (hid kn_78)
    have kn_80 : Hid (c_34 (A + 7) 5 = n0) := (hF_36 (A + 7) 5 (fun h => absurd h.1 (np hA rfl rfl))).trans (hid kn_79)
    have kn_81 : Hid (c_54 (A + 7) 5 = n0) := (hF_56 (A + 7) 5 (fun q => q.elim (fun h => absurd h.1 (np hA rfl rfl)) (fun q => q.elim (fun h => absurd h.1 (np hA rfl rfl)) (fun h => absurd h.1 (np hA rfl rfl))))).trans (hid kn_80)
    have h_82 := ir_p7_5 hJ9 hA
    have h_83 : m9 (A + 7) 5 = n0 := wd_fv (z := 5) 5 rfl hW (ck_p7 hA) (ck_p7 hA) rfl rfl (by omega) (hid kn_81) ⟨(Int.le_trans (by decide) (rg_eq hg_n0 h_6).1), (Int.le_trans (rg_eq hg_n0 h_6).2 (by decide))⟩ ⟨(Int.le_trans (by decide) h_82.1), (Int.le_trans h_82.2 (by decide))⟩
    refine q_aload_n rfl rfl ?_
    refine v_cv rfl rfl rfl rfl (by decide) ⟨⟨rfl, rfl⟩, by decide, rfl⟩ (Nat.le_of_ble_eq_true rfl) (Nat.le_of_ble_eq_true rfl) ?_
    refine q_aload_n rfl rfl ?_
    have h_84 := ir_41_5 hI
    have h_85 := ir_41_4 hI
    have h_86 := ir_41_6 hI
    have h_87 := rt_ok hRt (by omega)
    have hro_hRt := rt_ok hRt (by omega)
    refine v_gi (z := 5) (v := (-1)) rfl rfl rfl (by decide) rfl rfl hro_hRt.2.1 ?_
    refine q_iconst rfl ?_
    refine v_ic_ne_f (t := 12) rfl (by decide) (by decide) ?_
    refine q_iconst rfl ?_
    refine q_goto (t := 13) rfl (by decide) ?_
    refine v_zret rfl rfl (by decide) ?_
    refine bk_inl ?_
    refine v_if_ne_t (t := 8) rfl (by decide) (by decide) ?_
    refine q_aload_n rfl rfl ?_
    have h_88 : -2147483648 ≤ (H (nx F e1 p0)) ∧ (H (nx F e1 p0)) ≤ 2147483647 := by rw [← hH (nx F e1 p0)]; exact ir_43 hI (nx F e1 p0)
    have h_89 := hU (nx F e1 p0) (by omega) (by omega)
    have h_90 := hb_or (b := H) (e := e1) (r := (nx F e1 p0))
    have h_91 := hb_bd (b := H) (e := e1) (r := (nx F e1 p0)) (lo := -2147483648) (hi := 2147483647) h_88 (by decide)
    refine v_cv rfl rfl rfl rfl (by decide) ⟨⟨rfl, rfl⟩, by decide, rfl⟩ (Nat.le_of_ble_eq_true rfl) (Nat.le_of_ble_eq_true rfl) (f_154 (e1 := e1) (a9 := p0) (B := H) (r8 := (nx F e1 p0)) (r := (hb H e1 (nx F e1 p0))) hI ((hr_e1)) (((hro_hRt.2.2.1).trans ((hg_p0)))) (fun j => hH j) ((nx_tr hU (by first | (clear ha2 hq0 hq1 hq2 hq3 hq4 hq5 hq8 h_1 h_2 h_3 h_4 h_6 h_7 h_8 h_9 h_10 h_11 h_46 h_57 h_58 h_70 h_72 h_73 h_74 h_75 h_76 h_77 h_82 h_83 h_84 h_85 h_86 h_87 hq6 hq7 h_12 h_21 h_37; omega) | omega) (by first | (clear ha2 hq0 hq1 hq2 hq3 hq4 hq8 h_1 h_2 h_3 h_4 h_5 h_6 h_7 h_8 h_9 h_10 h_11 h_46 h_57 h_58 h_70 h_72 h_73 h_74 h_75 h_76 h_77 h_82 h_83 h_84 h_85 h_86 h_87 hq6 hq7 h_12 h_21 h_37; omega) | omega)).trans (rfl)) rfl (fun c_92 hI_93 hF_94 h_95 => ?_))
    refine bk_inl ?_
    refine v_bip rfl (by decide) ?_
    refine v_ic_ne_t (t := 45) rfl (by decide) ⟨by first | (clear ha2 hq0 hq1 hq2 hq3 hq8 h_3 h_4 h_5 h_6 h_7 h_8 h_9 h_11 h_57 h_58 h_70 h_72 h_73 h_74 h_76 h_82 h_83 h_84 h_85 h_86 h_87; omega) | omega, ⟨h_91.1, h_91.2⟩, by decide, by decide⟩ ?_
    refine q_aload_n rfl rfl ?_
    have kn_96 : Hid (c_92 41 3 = e1) := (hF_94 41 3 (fun h => absurd h.2 (ni rfl))).trans (hr_e1)
    refine v_cv rfl rfl rfl rfl (by decide) ⟨⟨rfl, rfl⟩, by decide, rfl⟩ (Nat.le_of_ble_eq_true rfl) (Nat.le_of_ble_eq_true rfl) (f_154 (e1 := e1) (a9 := (nx F e1 p0)) (B := H) (r8 := (nx F e1 p0)) (r := (hb H e1 (nx F e1 p0))) hI_93 ((hid kn_96)) ((h_95)) (fun j => (hF_94 43 j (fun h => absurd h.1 (nn rfl))).trans (hH j)) ((nx_tr hU (by first | (clear ha2 hq0 hq1 hq2 hq3 hq4 hq5 hq8 h_1 h_2 h_3 h_4 h_5 h_6 h_7 h_8 h_9 h_10 h_11 h_46 h_57 h_58 h_70 h_72 h_73 h_76 h_77 h_82 h_83 h_84 h_85 h_86 h_87 h_88 h_89 h_91 hq6 hq7 h_12 h_21 h_37 h_90; omega) | omega) (by first | (clear ha2 hq0 hq1 hq2 hq3 hq4 hq8 h_1 h_2 h_3 h_4 h_5 h_6 h_7 h_8 h_9 h_10 h_11 h_46 h_57 h_58 h_70 h_72 h_73 h_74 h_75 h_76 h_77 h_82 h_83 h_84 h_85 h_86 h_87 h_88 h_89 h_91 hq6 hq7 h_12 h_21 h_37 h_90; omega) | omega)).trans ((nx_z (by omega)))) rfl (fun c_97 hI_98 hF_99 h_100 => ?_))
    refine bk_inl ?_
    refine q_call rfl rfl rfl rfl (f_156 (a0 := (hb H e1 (nx F e1 p0))) hI_98 (show (-2147483648) ≤ (hb H e1 (nx F e1 p0)) ∧ (hb H e1 (nx F e1 p0)) ≤ 2147483647 from h_91) (fun y_101 hy_101 h_102 => ?_))
    refine bk_inl ?_
    refine v_if_eq_t (t := 71) rfl (by decide) (by first | (clear ha2 hq0 hq1 hq2 hq3 hq8 h_3 h_4 h_5 h_6 h_7 h_8 h_9 h_11 h_57 h_58 h_70 h_72 h_73 h_74 h_76 h_82 h_83 h_84 h_85 h_86 h_87; omega) | omega) ?_
    refine q_aload_n rfl rfl ?_
    have kn_103 : Hid (c_97 41 3 = e1) := (hF_99 41 3 (fun h => absurd h.2 (ni rfl))).trans (hid kn_96)
    have h_104 := wv_bd (b := F) (r := (nx F e1 p0)) (l := (ln F e1 (nx F e1 p0))) (fun j h1 h2 => ⟨(ln_in (e := e1) (a := (nx F e1 p0)) h1 h2).1, (ln_in (e := e1) (a := (nx F e1 p0)) h1 h2).2.1⟩)
    have hw_105 : Hid (¬ wv F (nx F e1 p0) (ln F e1 (nx F e1 p0)) = 206277 ∧ ¬ wv F (nx F e1 p0) (ln F e1 (nx F e1 p0)) = 13604 ∧ ¬ wv F (nx F e1 p0) (ln F e1 (nx F e1 p0)) = 116443749 ∧ ¬ wv F (nx F e1 p0) (ln F e1 (nx F e1 p0)) = 284267 ∧ ¬ wv F (nx F e1 p0) (ln F e1 (nx F e1 p0)) = 1420 ∧ ¬ wv F (nx F e1 p0) (ln F e1 (nx F e1 p0)) = 1253 ∧ ¬ wv F (nx F e1 p0) (ln F e1 (nx F e1 p0)) = 4153 ∧ ¬ wv F (nx F e1 p0) (ln F e1 (nx F e1 p0)) = 10290 ∧ ¬ wv F (nx F e1 p0) (ln F e1 (nx F e1 p0)) = 12748404 ∧ ¬ wv F (nx F e1 p0) (ln F e1 (nx F e1 p0)) = 441972) := wr1_10 (b := F) (r := (nx F e1 p0)) (l := (ln F e1 (nx F e1 p0))) (by omega) (fun j h1 h2 => ⟨(ln_in (e := e1) (a := (nx F e1 p0)) h1 h2).1, (ln_in (e := e1) (a := (nx F e1 p0)) h1 h2).2.1⟩) (by omega)
    refine v_cv rfl rfl rfl rfl (by decide) ⟨⟨rfl, rfl⟩, by decide, rfl⟩ (Nat.le_of_ble_eq_true rfl) (Nat.le_of_ble_eq_true rfl) (f_157 (e1 := e1) (a9 := (nx F e1 p0)) (B := H) (r8 := (nx F e1 p0)) (L8 := (ln F e1 (nx F e1 p0))) (W8 := (wv F (nx F e1 p0) (ln F e1 (nx F e1 p0)))) hI_98 ((hid kn_103)) ((h_100)) (fun j => ((hF_99 43 j (fun h => absurd h.1 (nn rfl))).trans (hF_94 43 j (fun h => absurd h.1 (nn rfl)))).trans (hH j)) ((nx_tr hU (by first | (clear ha2 hq0 hq1 hq2 hq3 hq4 hq5 hq8 h_1 h_2 h_3 h_4 h_5 h_6 h_7 h_8 h_9 h_10 h_11 h_46 h_57 h_58 h_70 h_72 h_73 h_76 h_77 h_82 h_83 h_84 h_85 h_86 h_87 h_88 h_89 h_91 hq6 hq7 h_12 h_21 h_37 h_90 h_102; omega) | omega) (by first | (clear ha2 hq0 hq1 hq2 hq3 hq4 hq8 h_1 h_2 h_3 h_4 h_5 h_6 h_7 h_8 h_9 h_10 h_11 h_46 h_57 h_58 h_70 h_72 h_73 h_74 h_75 h_76 h_77 h_82 h_83 h_84 h_85 h_86 h_87 h_88 h_89 h_91 hq6 hq7 h_12 h_21 h_37 h_90 h_102; omega) | omega)).trans ((nx_z (by omega)))) ((ln_tr hU (by first | (clear ha2 hq0 hq1 hq2 hq3 hq4 hq5 hq8 h_1 h_2 h_3 h_4 h_5 h_6 h_7 h_8 h_9 h_10 h_11 h_46 h_57 h_58 h_70 h_72 h_73 h_76 h_77 h_82 h_83 h_84 h_85 h_86 h_87 h_88 h_89 h_91 hq6 hq7 h_12 h_21 h_37 h_90 h_102; omega) | omega) (by first | (clear ha2 hq0 hq1 hq2 hq3 hq4 hq8 h_1 h_2 h_3 h_4 h_5 h_6 h_7 h_8 h_9 h_10 h_11 h_46 h_57 h_58 h_70 h_72 h_73 h_74 h_75 h_76 h_77 h_82 h_83 h_84 h_85 h_86 h_87 h_88 h_89 h_91 hq6 hq7 h_12 h_21 h_37 h_90 h_102; omega) | omega)).trans (rfl)) ((wv_tr hU (by first | (clear ha2 hq0 hq1 hq2 hq3 hq4 hq5 hq8 h_1 h_2 h_3 h_4 h_5 h_6 h_7 h_8 h_9 h_10 h_11 h_46 h_57 h_58 h_70 h_72 h_73 h_76 h_77 h_82 h_83 h_84 h_85 h_86 h_87 h_88 h_89 h_91 h_104 hq6 hq7 h_12 h_21 h_37 h_90 h_102 hw_105; omega) | omega) (by first | (clear ha2 hq0 hq1 hq2 hq3 hq4 hq8 h_1 h_2 h_3 h_4 h_5 h_6 h_7 h_8 h_9 h_10 h_11 h_57 h_58 h_70 h_72 h_73 h_74 h_75 h_76 h_77 h_82 h_83 h_84 h_85 h_86 h_87 h_88 h_89 h_91 h_104 hq6 hq7 h_12 h_21 h_37 h_90 h_102 hw_105; omega) | omega) (fun j h1 h2 => ⟨(ln_in (e := e1) (a := (nx F e1 p0)) h1 h2).1, (ln_in (e := e1) (a := (nx F e1 p0)) h1 h2).2.1⟩)).trans (rfl)) (fun c_106 hI_107 hF_108 hz_109 => ?_))
    refine bk_inl ?_
    refine q_ldc_w_s rfl rfl rfl (by decide) ?_
    refine q_call rfl rfl rfl rfl (s_158_20 ?_)
    refine bk_inl ?_
    refine v_ic_ne_t (t := 94) rfl (by decide) ⟨(hid hw_105).2.2.2.2.2.2.2.2.1, ⟨(Int.le_trans (by decide) h_104.1), (Int.le_trans h_104.2 (by decide))⟩, by decide, by decide⟩ ?_
    refine q_aload_n rfl rfl ?_
    have kn_110 : Hid (c_106 41 3 = e1) := (hF_108 41 3 (fun h => absurd h.2 (ni rfl))).trans (hid kn_103)
    refine v_cv rfl rfl rfl rfl (by decide) ⟨⟨rfl, rfl⟩, by decide, rfl⟩ (Nat.le_of_ble_eq_true rfl) (Nat.le_of_ble_eq_true rfl) (f_157 (e1 := e1) (a9 := (nx F e1 p0)) (B := H) (r8 := (nx F e1 p0)) (L8 := (ln F e1 (nx F e1 p0))) (W8 := (wv F (nx F e1 p0) (ln F e1 (nx F e1 p0)))) hI_107 ((hid kn_110)) ((hz_109)) (fun j => ((hF_108 43 j (fun h => absurd h.1 (nn rfl))).trans ((hF_99 43 j (fun h => absurd h.1 (nn rfl))).trans (hF_94 43 j (fun h => absurd h.1 (nn rfl))))).trans (hH j)) ((nx_tr hU (by first | (clear ha2 hq0 hq1 hq2 hq3 hq4 hq5 hq8 h_1 h_2 h_3 h_4 h_5 h_6 h_7 h_8 h_9 h_10 h_11 h_46 h_57 h_58 h_70 h_72 h_73 h_76 h_77 h_82 h_83 h_84 h_85 h_86 h_87 h_88 h_89 h_91 h_104 hq6 hq7 h_12 h_21 h_37 h_90 h_102 hw_105; omega) | omega) (by first | (clear ha2 hq0 hq1 hq2 hq3 hq4 hq8 h_1 h_2 h_3 h_4 h_5 h_6 h_7 h_8 h_9 h_10 h_11 h_46 h_57 h_58 h_70 h_72 h_73 h_74 h_75 h_76 h_77 h_82 h_83 h_84 h_85 h_86 h_87 h_88 h_89 h_91 h_104 hq6 hq7 h_12 h_21 h_37 h_90 h_102 hw_105; omega) | omega)).trans ((nx_z (by omega)))) ((ln_tr hU (by first | (clear ha2 hq0 hq1 hq2 hq3 hq4 hq5 hq8 h_1 h_2 h_3 h_4 h_5 h_6 h_7 h_8 h_9 h_10 h_11 h_46 h_57 h_58 h_70 h_72 h_73 h_76 h_77 h_82 h_83 h_84 h_85 h_86 h_87 h_88 h_89 h_91 h_104 hq6 hq7 h_12 h_21 h_37 h_90 h_102 hw_105; omega) | omega) (by first | (clear ha2 hq0 hq1 hq2 hq3 hq4 hq8 h_1 h_2 h_3 h_4 h_5 h_6 h_7 h_8 h_9 h_10 h_11 h_46 h_57 h_58 h_70 h_72 h_73 h_74 h_75 h_76 h_77 h_82 h_83 h_84 h_85 h_86 h_87 h_88 h_89 h_91 h_104 hq6 hq7 h_12 h_21 h_37 h_90 h_102 hw_105; omega) | omega)).trans (rfl)) ((wv_tr hU (by first | (clear ha2 hq0 hq1 hq2 hq3 hq4 hq5 hq8 h_1 h_2 h_3 h_4 h_5 h_6 h_7 h_8 h_9 h_10 h_11 h_46 h_57 h_58 h_70 h_72 h_73 h_76 h_77 h_82 h_83 h_84 h_85 h_86 h_87 h_88 h_89 h_91 h_104 hq6 hq7 h_12 h_21 h_37 h_90 h_102 hw_105; omega) | omega) (by first | (clear ha2 hq0 hq1 hq2 hq3 hq4 hq8 h_1 h_2 h_3 h_4 h_5 h_6 h_7 h_8 h_9 h_10 h_11 h_57 h_58 h_70 h_72 h_73 h_74 h_75 h_76 h_77 h_82 h_83 h_84 h_85 h_86 h_87 h_88 h_89 h_91 h_104 hq6 hq7 h_12 h_21 h_37 h_90 h_102 hw_105; omega) | omega) (fun j h1 h2 => ⟨(ln_in (e := e1) (a := (nx F e1 p0)) h1 h2).1, (ln_in (e := e1) (a := (nx F e1 p0)) h1 h2).2.1⟩)).trans (rfl)) (fun c_111 hI_112 hF_113 hz_114 => ?_))
    refine bk_inl ?_
    refine q_ldc_w_s rfl rfl rfl (by decide) ?_
    refine q_call rfl rfl rfl rfl (s_158_21 ?_)
    refine bk_inl ?_
    refine v_ic_ne_t (t := 117) rfl (by decide) ⟨(hid hw_105).2.2.2.2.2.2.2.2.2, ⟨(Int.le_trans (by decide) h_104.1), (Int.le_trans h_104.2 (by decide))⟩, by decide, by decide⟩ ?_
    refine q_aload_n rfl rfl ?_
    refine v_cv rfl rfl rfl rfl (by decide) ⟨⟨rfl, rfl⟩, by decide, rfl⟩ (Nat.le_of_ble_eq_true rfl) (Nat.le_of_ble_eq_true rfl) ?_
    refine q_aload_n rfl rfl ?_
    have kn_115 : Hid (c_111 41 3 = e1) := (hF_113 41 3 (fun h => absurd h.2 (ni rfl))).trans (hid kn_110)
    refine v_cv rfl rfl rfl rfl (by decide) ⟨⟨rfl, rfl⟩, by decide, rfl⟩ (Nat.le_of_ble_eq_true rfl) (Nat.le_of_ble_eq_true rfl) (f_157 (e1 := e1) (a9 := (nx F e1 p0)) (B := H) (r8 := (nx F e1 p0)) (L8 := (ln F e1 (nx F e1 p0))) (W8 := (wv F (nx F e1 p0) (ln F e1 (nx F e1 p0)))) hI_112 ((hid kn_115)) ((hz_114)) (fun j => ((hF_113 43 j (fun h => absurd h.1 (nn rfl))).trans ((hF_108 43 j (fun h => absurd h.1 (nn rfl))).trans ((hF_99 43 j (fun h => absurd h.1 (nn rfl))).trans (hF_94 43 j (fun h => absurd h.1 (nn rfl)))))).trans (hH j)) ((nx_tr hU (by first | (clear ha2 hq0 hq1 hq2 hq3 hq4 hq5 hq8 h_1 h_2 h_3 h_4 h_5 h_6 h_7 h_8 h_9 h_10 h_11 h_46 h_57 h_58 h_70 h_72 h_73 h_76 h_77 h_82 h_83 h_84 h_85 h_86 h_87 h_88 h_89 h_91 h_104 hq6 hq7 h_12 h_21 h_37 h_90 h_102 hw_105; omega) | omega) (by first | (clear ha2 hq0 hq1 hq2 hq3 hq4 hq8 h_1 h_2 h_3 h_4 h_5 h_6 h_7 h_8 h_9 h_10 h_11 h_46 h_57 h_58 h_70 h_72 h_73 h_74 h_75 h_76 h_77 h_82 h_83 h_84 h_85 h_86 h_87 h_88 h_89 h_91 h_104 hq6 hq7 h_12 h_21 h_37 h_90 h_102 hw_105; omega) | omega)).trans ((nx_z (by omega)))) ((ln_tr hU (by first | (clear ha2 hq0 hq1 hq2 hq3 hq4 hq5 hq8 h_1 h_2 h_3 h_4 h_5 h_6 h_7 h_8 h_9 h_10 h_11 h_46 h_57 h_58 h_70 h_72 h_73 h_76 h_77 h_82 h_83 h_84 h_85 h_86 h_87 h_88 h_89 h_91 h_104 hq6 hq7 h_12 h_21 h_37 h_90 h_102 hw_105; omega) | omega) (by first | (clear ha2 hq0 hq1 hq2 hq3 hq4 hq8 h_1 h_2 h_3 h_4 h_5 h_6 h_7 h_8 h_9 h_10 h_11 h_46 h_57 h_58 h_70 h_72 h_73 h_74 h_75 h_76 h_77 h_82 h_83 h_84 h_85 h_86 h_87 h_88 h_89 h_91 h_104 hq6 hq7 h_12 h_21 h_37 h_90 h_102 hw_105; omega) | omega)).trans (rfl)) ((wv_tr hU (by first | (clear ha2 hq0 hq1 hq2 hq3 hq4 hq5 hq8 h_1 h_2 h_3 h_4 h_5 h_6 h_7 h_8 h_9 h_10 h_11 h_46 h_57 h_58 h_70 h_72 h_73 h_76 h_77 h_82 h_83 h_84 h_85 h_86 h_87 h_88 h_89 h_91 h_104 hq6 hq7 h_12 h_21 h_37 h_90 h_102 hw_105; omega) | omega) (by first | (clear ha2 hq0 hq1 hq2 hq3 hq4 hq8 h_1 h_2 h_3 h_4 h_5 h_6 h_7 h_8 h_9 h_10 h_11 h_57 h_58 h_70 h_72 h_73 h_74 h_75 h_76 h_77 h_82 h_83 h_84 h_85 h_86 h_87 h_88 h_89 h_91 h_104 hq6 hq7 h_12 h_21 h_37 h_90 h_102 hw_105; omega) | omega) (fun j h1 h2 => ⟨(ln_in (e := e1) (a := (nx F e1 p0)) h1 h2).1, (ln_in (e := e1) (a := (nx F e1 p0)) h1 h2).2.1⟩)).trans (rfl)) (fun c_116 hI_117 hF_118 hz_119 => ?_))
    refine bk_inl ?_
    refine q_istore_n rfl (by decide) ?_
    refine q_iload_n rfl rfl ?_
    refine q_ldc_s rfl rfl rfl (by decide) ?_
    refine q_call rfl rfl rfl rfl (s_158_22 ?_)
    refine bk_inl ?_
    refine v_ic_ne_t (t := 18) rfl (by decide) ⟨(hid hw_105).1, ⟨(Int.le_trans (by decide) h_104.1), (Int.le_trans h_104.2 (by decide))⟩, by decide, by decide⟩ ?_
    refine q_iload_n rfl rfl ?_
    refine q_ldc_s rfl rfl rfl (by decide) ?_
    refine q_call rfl rfl rfl rfl (s_158_23 ?_)
    refine bk_inl ?_
    refine v_ic_ne_t (t := 31) rfl (by decide) ⟨(hid hw_105).2.1, ⟨(Int.le_trans (by decide) h_104.1), (Int.le_trans h_104.2 (by decide))⟩, by decide, by decide⟩ ?_
    refine q_iload_n rfl rfl ?_
    refine q_ldc_w_s rfl rfl rfl (by decide) ?_
    refine q_call rfl rfl rfl rfl (s_158_24 ?_)
    refine bk_inl ?_
    refine v_ic_ne_t (t := 45) rfl (by decide) ⟨(hid hw_105).2.2.1, ⟨(Int.le_trans (by decide) h_104.1), (Int.le_trans h_104.2 (by decide))⟩, by decide, by decide⟩ ?_
    refine q_iload_n rfl rfl ?_
    refine q_ldc_w_s rfl rfl rfl (by decide) ?_
    refine q_call rfl rfl rfl rfl (s_158_25 ?_)
    refine bk_inl ?_
    refine v_ic_ne_t (t := 59) rfl (by decide) ⟨(hid hw_105).2.2.2.1, ⟨(Int.le_trans (by decide) h_104.1), (Int.le_trans h_104.2 (by decide))⟩, by decide, by decide⟩ ?_
    refine q_iload_n rfl rfl ?_
    refine q_ldc_w_s rfl rfl rfl (by decide) ?_
    refine q_call rfl rfl rfl rfl (s_158_26 ?_)
    refine bk_inl ?_
    refine v_ic_ne_t (t := 73) rfl (by decide) ⟨(hid hw_105).2.2.2.2.1, ⟨(Int.le_trans (by decide) h_104.1), (Int.le_trans h_104.2 (by decide))⟩, by decide, by decide⟩ ?_
    refine q_iload_n rfl rfl ?_
    refine q_ldc_w_s rfl rfl rfl (by decide) ?_
    refine q_call rfl rfl rfl rfl (s_158_27 ?_)
    refine bk_inl ?_
    refine v_ic_ne_t (t := 87) rfl (by decide) ⟨(hid hw_105).2.2.2.2.2.1, ⟨(Int.le_trans (by decide) h_104.1), (Int.le_trans h_104.2 (by decide))⟩, by decide, by decide⟩ ?_
    refine q_iload_n rfl rfl ?_
    refine q_ldc_w_s rfl rfl rfl (by decide) ?_
    refine q_call rfl rfl rfl rfl (s_158_28 ?_)
    refine bk_inl ?_
    refine v_ic_ne_t (t := 102) rfl (by decide) ⟨(hid hw_105).2.2.2.2.2.2.1, ⟨(Int.le_trans (by decide) h_104.1), (Int.le_trans h_104.2 (by decide))⟩, by decide, by decide⟩ ?_
    refine q_iload_n rfl rfl ?_
    refine q_ldc_s rfl rfl rfl (by decide) ?_
    refine q_call rfl rfl rfl rfl (s_158_16 ?_)
    refine bk_inl ?_
    refine v_ic_ne_t (t := 116) rfl (by decide) ⟨(hid hw_105).2.2.2.2.2.2.2.1, ⟨(Int.le_trans (by decide) h_104.1), (Int.le_trans h_104.2 (by decide))⟩, by decide, by decide⟩ ?_
    refine q_iconst rfl ?_
    refine q_iret rfl rfl ?_
    refine bk_inl ?_
    refine q_istore_n rfl (by decide) ?_
    refine q_iload_n rfl rfl ?_
    refine q_iconst rfl ?_
    refine v_ic_ne_f (t := 136) rfl (by decide) (by decide) ?_
    refine q_aload_n rfl rfl ?_
    refine q_iconst rfl ?_
    refine q_aload_n rfl rfl ?_
    refine v_gi (z := 4) (v := (nx F e1 p0)) rfl rfl rfl (by decide) rfl rfl (hz_119) ?_
    refine v_cv rfl rfl rfl rfl (by decide) ⟨⟨rfl, rfl⟩, by decide, rfl⟩ (Nat.le_of_ble_eq_true rfl) (Nat.le_of_ble_eq_true rfl) ?_
    refine q_aload_n rfl rfl ?_
    have kn_120 : Hid (c_92 41 5 = (-1)) := (hF_94 41 5 (fun h => absurd h.2 (ni rfl))).trans hro_hRt.2.1
    have kn_121 : Hid (c_97 41 5 = (-1)) := (hF_99 41 5 (fun h => absurd h.2 (ni rfl))).trans (hid kn_120)
    have kn_122 : Hid (c_106 41 5 = (-1)) := (hF_108 41 5 (fun h => absurd h.2 (ni rfl))).trans (hid kn_121)
    have kn_123 : Hid (c_111 41 5 = (-1)) := (hF_113 41 5 (fun h => absurd h.2 (ni rfl))).trans (hid kn_122)
    have kn_124 : Hid (c_116 41 5 = (-1)) := (hF_118 41 5 (fun h => absurd h.2 (ni rfl))).trans (hid kn_123)
    refine v_gi (z := 5) (v := (-1)) rfl rfl rfl (by decide) rfl rfl (hid kn_124) ?_
    refine q_iconst rfl ?_
    refine v_ic_eq_t (t := 9) rfl (by decide) (by decide) ?_
    refine q_aload_n rfl rfl ?_
    refine q_iload_n rfl rfl ?_
    refine v_pi (z := 5) rfl rfl rfl (by decide) rfl rfl rfl (by decide) ?_
    refine q_aload_n rfl rfl ?_
    refine q_iload_n rfl rfl ?_
    refine v_pi (z := 6) rfl rfl rfl (by decide) rfl rfl rfl (by decide) ?_
    refine q_vret rfl rfl ?_
    refine bk_inl ?_
    refine q_aload_n rfl rfl ?_
    refine v_cv rfl rfl rfl rfl (by decide) ⟨⟨rfl, rfl⟩, by decide, rfl⟩ (Nat.le_of_ble_eq_true rfl) (Nat.le_of_ble_eq_true rfl) ?_
    refine q_aload_n rfl rfl ?_
    refine v_gi (z := 5) (v := (nx F e1 p0)) rfl rfl rfl (by decide) rfl rfl ((up_n (by decide)).trans (up_e rfl)) ?_
    refine q_iconst rfl ?_
    refine v_ic_ne_t (t := 12) rfl (by decide) ⟨(ne_rg (rg_be h_10 ((rg_eq hg_p0 h_5).1) ((rg_eq hg_e1 h_1).2)) (by decide)), ⟨(Int.le_trans (by decide) (rg_be h_10 ((rg_eq hg_p0 h_5).1) ((rg_eq hg_e1 h_1).2)).1), (Int.le_trans (rg_be h_10 ((rg_eq hg_p0 h_5).1) ((rg_eq hg_e1 h_1).2)).2 (by decide))⟩, by decide, by decide⟩ ?_
    refine q_iconst rfl ?_
    refine v_zret rfl rfl (by decide) ?_
    refine bk_inl ?_
    refine v_if_ne_f (t := 144) rfl (by decide) (by decide) ?_
    refine q_vret rfl rfl ?_
    have hI_125 := iw_41_5 (v := (nx F e1 p0)) hI_117 ⟨(Int.le_trans (by decide) (rg_be h_10 ((rg_eq hg_p0 h_5).1) ((rg_eq hg_e1 h_1).2)).1), (Int.le_trans (rg_be h_10 ((rg_eq hg_p0 h_5).1) ((rg_eq hg_e1 h_1).2)).2 (by decide))⟩
    have hI_126 := iw_41_6 (v := 1) hI_125 ⟨by decide, by decide⟩
    have h_127 : (up (up c_116 41 5 (nx F e1 p0)) 41 6 1) 41 5 = (nx F e1 p0) := ((up_n (by decide)).trans (up_e rfl))
    have h_128 : (up (up c_116 41 5 (nx F e1 p0)) 41 6 1) 41 4 = (nx F e1 p0) := ((up_n (by decide)).trans ((up_n (by decide)).trans (hz_119)))
    have h_129 : (up (up c_116 41 5 (nx F e1 p0)) 41 6 1) 41 6 = 1 := (up_e rfl)
    have kn_130 : Hid (c_92 41 29 = n0) := (hF_94 41 29 (fun h => absurd h.2 (ni rfl))).trans (hr_n0)
    have kn_131 : Hid (c_97 41 29 = n0) := (hF_99 41 29 (fun h => absurd h.2 (ni rfl))).trans (hid kn_130)
    have kn_132 : Hid (c_106 41 29 = n0) := (hF_108 41 29 (fun h => absurd h.2 (ni rfl))).trans (hid kn_131)
    have kn_133 : Hid (c_111 41 29 = n0) := (hF_113 41 29 (fun h => absurd h.2 (ni rfl))).trans (hid kn_132)
    have kn_134 : Hid (c_116 41 29 = n0) := (hF_118 41 29 (fun h => absurd h.2 (ni rfl))).trans (hid kn_133)
    have h_135 : (up (up c_116 41 5 (nx F e1 p0)) 41 6 1) 41 29 = n0 := ((up_n (by decide)).trans ((up_n (by decide)).trans (hid kn_134)))
    have kn_136 : Hid (c_92 41 7 = o0) := (hF_94 41 7 (fun h => absurd h.2 (ni rfl))).trans (hr_o0)
    have kn_137 : Hid (c_97 41 7 = o0) := (hF_99 41 7 (fun h => absurd h.2 (ni rfl))).trans (hid kn_136)
    have kn_138 : Hid (c_106 41 7 = o0) := (hF_108 41 7 (fun h => absurd h.2 (ni rfl))).trans (hid kn_137)
    have kn_139 : Hid (c_111 41 7 = o0) := (hF_113 41 7 (fun h => absurd h.2 (ni rfl))).trans (hid kn_138)
    have kn_140 : Hid (c_116 41 7 = o0) := (hF_118 41 7 (fun h => absurd h.2 (ni rfl))).trans (hid kn_139)
    have h_141 : (up (up c_116 41 5 (nx F e1 p0)) 41 6 1) 41 7 = o0 := ((up_n (by decide)).trans ((up_n (by decide)).trans (hid kn_140)))
    have h_142 : (up (up c_116 41 5 (nx F e1 p0)) 41 6 1) 41 29 = n0 := ((up_n (by decide)).trans ((up_n (by decide)).trans (hid kn_134)))
    exact K (up (up c_116 41 5 (nx F e1 p0)) 41 6 1)  hI_126 (fun a j hm => (up_b (Decidable.or_iff_not_imp_left.mpr (fun h1 h2 => hm (Or.inr (Or.inr (Or.inl ⟨Decidable.not_not.mp h1, h2⟩)))))).trans ((up_b (Decidable.or_iff_not_imp_left.mpr (fun h1 h2 => hm (Or.inr (Or.inl ⟨Decidable.not_not.mp h1, h2⟩))))).trans ((hF_118 a j (fun h => hm (Or.inl h))).trans ((hF_113 a j (fun h => hm (Or.inl h))).trans ((hF_108 a j (fun h => hm (Or.inl h))).trans ((hF_99 a j (fun h => hm (Or.inl h))).trans (hF_94 a j (fun h => hm (Or.inl h))))))))) (rt_i2 ⟨⟨by first | (clear ha2 hq0 hq1 hq2 hq3 hq4 hq5 hq8 h_1 h_2 h_3 h_4 h_5 h_6 h_7 h_8 h_9 h_10 h_11 h_46 h_57 h_58 h_70 h_72 h_74 h_75 h_76 h_77 h_82 h_83 h_84 h_85 h_86 h_87 h_88 h_89 h_91 h_104 hq6 hq7 h_12 h_21 h_37 h_90 h_102 hw_105; omega) | omega, by first | (clear ha2 hq0 hq1 hq2 hq3 hq4 hq5 hq8 h_1 h_2 h_3 h_4 h_5 h_6 h_7 h_8 h_9 h_10 h_11 h_46 h_57 h_58 h_70 h_72 h_74 h_75 h_76 h_77 h_82 h_83 h_84 h_85 h_86 h_87 h_88 h_89 h_91 h_104 hq6 hq7 h_12 h_21 h_37 h_90 h_102 hw_105; omega) | omega⟩, by first | (clear ha2 hq0 hq1 hq2 hq3 hq4 hq5 hq8 h_1 h_2 h_3 h_4 h_5 h_6 h_7 h_8 h_9 h_10 h_11 h_46 h_57 h_58 h_70 h_72 h_73 h_74 h_75 h_76 h_82 h_83 h_84 h_85 h_86 h_87 h_88 h_89 h_91 h_104 hq6 hq7 h_12 h_21 h_37 h_90 h_102 hw_105; omega) | omega, by first | (clear ha2 hq0 hq1 hq2 hq3 hq4 hq5 hq8 h_1 h_2 h_3 h_4 h_5 h_6 h_7 h_8 h_9 h_10 h_11 h_46 h_57 h_58 h_70 h_72 h_73 h_76 h_82 h_83 h_84 h_85 h_86 h_87 h_88 h_89 h_91 h_104 hq6 hq7 h_12 h_21 h_37 h_90 h_102 hw_105; omega) | omega, by first | (clear ha2 hq0 hq1 hq2 hq3 hq4 hq5 hq8 h_1 h_2 h_3 h_4 h_5 h_6 h_7 h_8 h_9 h_10 h_11 h_46 h_57 h_58 h_70 h_72 h_74 h_75 h_76 h_77 h_82 h_83 h_84 h_85 h_86 h_87 h_88 h_89 h_91 h_104 hq6 hq7 h_12 h_21 h_37 h_90 h_102 hw_105; omega) | omega⟩) (Or.inr (Or.inl (by first | (clear ha2 hq0 hq1 hq2 hq3 hq4 hq5 hq8 h_1 h_2 h_3 h_4 h_5 h_6 h_7 h_8 h_9 h_10 h_11 h_46 h_57 h_58 h_70 h_72 h_74 h_75 h_76 h_77 h_82 h_83 h_84 h_85 h_86 h_87 h_88 h_89 h_91 h_104 hq6 hq7 h_12 h_21 h_37 h_90 h_102 hw_105; omega) | omega))) (by first | (clear ha2 hq0 hq1 hq3 hq4 hq5 hq8 h_1 h_2 h_3 h_4 h_5 h_6 h_7 h_8 h_9 h_10 h_11 h_46 h_57 h_58 h_70 h_72 h_73 h_74 h_75 h_76 h_77 h_82 h_83 h_84 h_85 h_86 h_87 h_88 h_89 h_91 h_104 hq6 hq7 h_12 h_21 h_37 h_90 h_102 hw_105; omega) | omega) (fun hz => absurd hz (by omega))
  · refine v_ic_lt_f (t := 94) rfl (by decide) ⟨by decide, (Int.not_lt.mp h_70), (Int.le_trans ha2.2 (by decide))⟩ ?_
    refine q_aload_n rfl rfl ?_
    refine q_iconst rfl ?_
    refine q_iload_n rfl rfl ?_
    refine v_cv rfl rfl rfl rfl (by decide) ⟨⟨rfl, rfl⟩, by decide, rfl⟩ (Nat.le_of_ble_eq_true rfl) (Nat.le_of_ble_eq_true rfl) ?_
    refine q_aload_n rfl rfl ?_
    refine v_gi (z := 4) (v := 1) rfl rfl rfl (by decide) rfl rfl (hz_60) ?_
    refine v_if_ne_t (t := 17) rfl (by decide) (by decide) ?_
    refine q_vret rfl rfl ?_
    refine bk_inl ?_
    refine q_aload_n rfl rfl ?_
    refine v_cv rfl rfl rfl rfl (by decide) ⟨⟨rfl, rfl⟩, by decide, rfl⟩ (Nat.le_of_ble_eq_true rfl) (Nat.le_of_ble_eq_true rfl) ?_
    refine q_aload_n rfl rfl ?_
    refine v_gi (z := 4) (v := 1) rfl rfl rfl (by decide) rfl rfl (hz_60) ?_
    refine v_if_ne_t (t := 11) rfl (by decide) (by decide) ?_
    refine q_iconst rfl ?_
    refine v_zret rfl rfl (by decide) ?_
    refine bk_inl ?_
    refine v_if_ne_f (t := 102) rfl (by decide) (by decide) ?_
    refine q_vret rfl rfl ?_
    intro hE_143
    have hW : Wd P Q P P c_54 = Wd P Q P P m9 := (Prod.mk.inj (Prod.mk.inj hE_143).2).1
    have h_144 := ir_1_4 hJ9
    have h_145 : m9 1 4 = 1 := wd_fv (z := 4) 4 rfl hW rfl rfl rfl rfl (by decide) (hz_60) ⟨by decide, by decide⟩ ⟨(Int.le_trans (by decide) h_144.1), (Int.le_trans h_144.2 (by decide))⟩
    have h_146 := ir_1_2 hJ9
    have h_147 : m9 1 2 = (nx F e1 p0) := wd_fv (z := 2) 2 rfl hW rfl rfl rfl rfl (by decide) (hz_59) ⟨(Int.le_trans (by decide) (rg_be h_10 ((rg_eq hg_p0 h_5).1) ((rg_eq hg_e1 h_1).2)).1), (Int.le_trans (rg_be h_10 ((rg_eq hg_p0 h_5).1) ((rg_eq hg_e1 h_1).2)).2 (by decide))⟩ ⟨(Int.le_trans (by decide) h_146.1), (Int.le_trans h_146.2 (by decide))⟩
    have h_148 := ir_1_5 hJ9
    have h_149 : m9 1 5 = (nx F e1 p0) := wd_fv (z := 5) 5 rfl hW rfl rfl rfl rfl (by decide) (hz_61) ⟨(Int.le_trans (by decide) (rg_be h_10 ((rg_eq hg_p0 h_5).1) ((rg_eq hg_e1 h_1).2)).1), (Int.le_trans (rg_be h_10 ((rg_eq hg_p0 h_5).1) ((rg_eq hg_e1 h_1).2)).2 (by decide))⟩ ⟨(Int.le_trans (by decide) h_148.1), (Int.le_trans h_148.2 (by decide))⟩
    have kn_150 : Hid (c_18 (A + 7) 5 = n0) := (hF_20 (A + 7) 5 (fun h => absurd h.1 (np hA rfl rfl))).trans (hg_n0)
    have kn_151 : Hid (c_24 (A + 7) 5 = n0) := (hF_26 (A + 7) 5 (fun h => absurd h.1 (np hA rfl rfl))).trans (hid kn_150)
    have kn_152 : Hid (c_34 (A + 7) 5 = n0) := (hF_36 (A + 7) 5 (fun h => absurd h.1 (np hA rfl rfl))).trans (hid kn_151)
    have kn_153 : Hid (c_54 (A + 7) 5 = n0) := (hF_56 (A + 7) 5 (fun q => q.elim (fun h => absurd h.1 (np hA rfl rfl)) (fun q => q.elim (fun h => absurd h.1 (np hA rfl rfl)) (fun h => absurd h.1 (np hA rfl rfl))))).trans (hid kn_152)
    have h_154 := ir_p7_5 hJ9 hA
    have h_155 : m9 (A + 7) 5 = n0 := wd_fv (z := 5) 5 rfl hW (ck_p7 hA) (ck_p7 hA) rfl rfl (by omega) (hid kn_153) ⟨(Int.le_trans (by decide) (rg_eq hg_n0 h_6).1), (Int.le_trans (rg_eq hg_n0 h_6).2 (by decide))⟩ ⟨(Int.le_trans (by decide) h_154.1), (Int.le_trans h_154.2 (by decide))⟩
    refine q_aload_n rfl rfl ?_
    refine v_cv rfl rfl rfl rfl (by decide) ⟨⟨rfl, rfl⟩, by decide, rfl⟩ (Nat.le_of_ble_eq_true rfl) (Nat.le_of_ble_eq_true rfl) ?_
    refine q_aload_n rfl rfl ?_
    have h_156 := ir_41_5 hI
    have h_157 := ir_41_4 hI
    have h_158 := ir_41_6 hI
    have h_159 := rt_ok hRt (by omega)
    have hro_hRt := rt_ok hRt (by omega)
    refine v_gi (z := 5) (v := (-1)) rfl rfl rfl (by decide) rfl rfl hro_hRt.2.1 ?_
    refine q_iconst rfl ?_
    refine v_ic_ne_f (t := 12) rfl (by decide) (by decide) ?_
    refine q_iconst rfl ?_
    refine q_goto (t := 13) rfl (by decide) ?_
    refine v_zret rfl rfl (by decide) ?_
    refine bk_inl ?_
    refine v_if_ne_t (t := 8) rfl (by decide) (by decide) ?_
    refine q_aload_n rfl rfl ?_
    have h_160 : -2147483648 ≤ (H (nx F e1 p0)) ∧ (H (nx F e1 p0)) ≤ 2147483647 := by rw [← hH (nx F e1 p0)]; exact ir_43 hI (nx F e1 p0)
    have h_161 := hU (nx F e1 p0) (by omega) (by omega)
    have h_162 := hb_or (b := H) (e := e1) (r := (nx F e1 p0))
    have h_163 := hb_bd (b := H) (e := e1) (r := (nx F e1 p0)) (lo := -2147483648) (hi := 2147483647) h_160 (by decide)
    refine v_cv rfl rfl rfl rfl (by decide) ⟨⟨rfl, rfl⟩, by decide, rfl⟩ (Nat.le_of_ble_eq_true rfl) (Nat.le_of_ble_eq_true rfl) (f_154 (e1 := e1) (a9 := p0) (B := H) (r8 := (nx F e1 p0)) (r := (hb H e1 (nx F e1 p0))) hI ((hr_e1)) (((hro_hRt.2.2.1).trans ((hg_p0)))) (fun j => hH j) ((nx_tr hU (by first | (clear ha2 hq0 hq1 hq2 hq3 hq4 hq5 hq8 h_1 h_2 h_3 h_4 h_6 h_7 h_8 h_9 h_10 h_11 h_46 h_57 h_58 h_144 h_145 h_146 h_147 h_148 h_149 h_154 h_155 h_156 h_157 h_158 h_159 hq6 hq7 h_12 h_21 h_37; omega) | omega) (by first | (clear ha2 hq0 hq1 hq2 hq3 hq4 hq8 h_1 h_2 h_3 h_4 h_5 h_6 h_7 h_8 h_9 h_10 h_11 h_46 h_57 h_58 h_144 h_145 h_146 h_147 h_148 h_149 h_154 h_155 h_156 h_157 h_158 h_159 hq6 hq7 h_12 h_21 h_37; omega) | omega)).trans (rfl)) rfl (fun c_164 hI_165 hF_166 h_167 => ?_))
    refine bk_inl ?_
    refine v_bip rfl (by decide) ?_
    refine v_ic_ne_t (t := 45) rfl (by decide) ⟨by first | (clear ha2 hq0 hq1 hq2 hq3 hq8 h_3 h_4 h_5 h_6 h_7 h_8 h_9 h_11 h_57 h_58 h_144 h_145 h_146 h_148 h_154 h_155 h_156 h_157 h_158 h_159; omega) | omega, ⟨h_163.1, h_163.2⟩, by decide, by decide⟩ ?_
    refine q_aload_n rfl rfl ?_
    have kn_168 : Hid (c_164 41 3 = e1) := (hF_166 41 3 (fun h => absurd h.2 (ni rfl))).trans (hr_e1)
    refine v_cv rfl rfl rfl rfl (by decide) ⟨⟨rfl, rfl⟩, by decide, rfl⟩ (Nat.le_of_ble_eq_true rfl) (Nat.le_of_ble_eq_true rfl) (f_154 (e1 := e1) (a9 := (nx F e1 p0)) (B := H) (r8 := (nx F e1 p0)) (r := (hb H e1 (nx F e1 p0))) hI_165 ((hid kn_168)) ((h_167)) (fun j => (hF_166 43 j (fun h => absurd h.1 (nn rfl))).trans (hH j)) ((nx_tr hU (by first | (clear ha2 hq0 hq1 hq2 hq3 hq4 hq5 hq8 h_1 h_2 h_3 h_4 h_5 h_6 h_7 h_8 h_9 h_10 h_11 h_46 h_57 h_58 h_144 h_145 h_148 h_149 h_154 h_155 h_156 h_157 h_158 h_159 h_160 h_161 h_163 hq6 hq7 h_12 h_21 h_37 h_162; omega) | omega) (by first | (clear ha2 hq0 hq1 hq2 hq3 hq4 hq8 h_1 h_2 h_3 h_4 h_5 h_6 h_7 h_8 h_9 h_10 h_11 h_46 h_57 h_58 h_144 h_145 h_146 h_147 h_148 h_149 h_154 h_155 h_156 h_157 h_158 h_159 h_160 h_161 h_163 hq6 hq7 h_12 h_21 h_37 h_162; omega) | omega)).trans ((nx_z (by omega)))) rfl (fun c_169 hI_170 hF_171 h_172 => ?_))
    refine bk_inl ?_
    refine q_call rfl rfl rfl rfl (f_156 (a0 := (hb H e1 (nx F e1 p0))) hI_170 (show (-2147483648) ≤ (hb H e1 (nx F e1 p0)) ∧ (hb H e1 (nx F e1 p0)) ≤ 2147483647 from h_163) (fun y_173 hy_173 h_174 => ?_))
    refine bk_inl ?_
    refine v_if_eq_t (t := 71) rfl (by decide) (by first | (clear ha2 hq0 hq1 hq2 hq3 hq8 h_3 h_4 h_5 h_6 h_7 h_8 h_9 h_11 h_57 h_58 h_144 h_145 h_146 h_148 h_154 h_155 h_156 h_157 h_158 h_159; omega) | omega) ?_
    refine q_aload_n rfl rfl ?_
    have kn_175 : Hid (c_169 41 3 = e1) := (hF_171 41 3 (fun h => absurd h.2 (ni rfl))).trans (hid kn_168)
    have h_176 := wv_bd (b := F) (r := (nx F e1 p0)) (l := (ln F e1 (nx F e1 p0))) (fun j h1 h2 => ⟨(ln_in (e := e1) (a := (nx F e1 p0)) h1 h2).1, (ln_in (e := e1) (a := (nx F e1 p0)) h1 h2).2.1⟩)
    have hw_177 : Hid (¬ wv F (nx F e1 p0) (ln F e1 (nx F e1 p0)) = 206277 ∧ ¬ wv F (nx F e1 p0) (ln F e1 (nx F e1 p0)) = 13604 ∧ ¬ wv F (nx F e1 p0) (ln F e1 (nx F e1 p0)) = 116443749 ∧ ¬ wv F (nx F e1 p0) (ln F e1 (nx F e1 p0)) = 284267 ∧ ¬ wv F (nx F e1 p0) (ln F e1 (nx F e1 p0)) = 1420 ∧ ¬ wv F (nx F e1 p0) (ln F e1 (nx F e1 p0)) = 1253 ∧ ¬ wv F (nx F e1 p0) (ln F e1 (nx F e1 p0)) = 4153 ∧ ¬ wv F (nx F e1 p0) (ln F e1 (nx F e1 p0)) = 10290 ∧ ¬ wv F (nx F e1 p0) (ln F e1 (nx F e1 p0)) = 12748404 ∧ ¬ wv F (nx F e1 p0) (ln F e1 (nx F e1 p0)) = 441972) := wr1_10 (b := F) (r := (nx F e1 p0)) (l := (ln F e1 (nx F e1 p0))) (by omega) (fun j h1 h2 => ⟨(ln_in (e := e1) (a := (nx F e1 p0)) h1 h2).1, (ln_in (e := e1) (a := (nx F e1 p0)) h1 h2).2.1⟩) (by omega)
    refine v_cv rfl rfl rfl rfl (by decide) ⟨⟨rfl, rfl⟩, by decide, rfl⟩ (Nat.le_of_ble_eq_true rfl) (Nat.le_of_ble_eq_true rfl) (f_157 (e1 := e1) (a9 := (nx F e1 p0)) (B := H) (r8 := (nx F e1 p0)) (L8 := (ln F e1 (nx F e1 p0))) (W8 := (wv F (nx F e1 p0) (ln F e1 (nx F e1 p0)))) hI_170 ((hid kn_175)) ((h_172)) (fun j => ((hF_171 43 j (fun h => absurd h.1 (nn rfl))).trans (hF_166 43 j (fun h => absurd h.1 (nn rfl)))).trans (hH j)) ((nx_tr hU (by first | (clear ha2 hq0 hq1 hq2 hq3 hq4 hq5 hq8 h_1 h_2 h_3 h_4 h_5 h_6 h_7 h_8 h_9 h_10 h_11 h_46 h_57 h_58 h_144 h_145 h_148 h_149 h_154 h_155 h_156 h_157 h_158 h_159 h_160 h_161 h_163 hq6 hq7 h_12 h_21 h_37 h_162 h_174; omega) | omega) (by first | (clear ha2 hq0 hq1 hq2 hq3 hq4 hq8 h_1 h_2 h_3 h_4 h_5 h_6 h_7 h_8 h_9 h_10 h_11 h_46 h_57 h_58 h_144 h_145 h_146 h_147 h_148 h_149 h_154 h_155 h_156 h_157 h_158 h_159 h_160 h_161 h_163 hq6 hq7 h_12 h_21 h_37 h_162 h_174; omega) | omega)).trans ((nx_z (by omega)))) ((ln_tr hU (by first | (clear ha2 hq0 hq1 hq2 hq3 hq4 hq5 hq8 h_1 h_2 h_3 h_4 h_5 h_6 h_7 h_8 h_9 h_10 h_11 h_46 h_57 h_58 h_144 h_145 h_148 h_149 h_154 h_155 h_156 h_157 h_158 h_159 h_160 h_161 h_163 hq6 hq7 h_12 h_21 h_37 h_162 h_174; omega) | omega) (by first | (clear ha2 hq0 hq1 hq2 hq3 hq4 hq8 h_1 h_2 h_3 h_4 h_5 h_6 h_7 h_8 h_9 h_10 h_11 h_46 h_57 h_58 h_144 h_145 h_146 h_147 h_148 h_149 h_154 h_155 h_156 h_157 h_158 h_159 h_160 h_161 h_163 hq6 hq7 h_12 h_21 h_37 h_162 h_174; omega) | omega)).trans (rfl)) ((wv_tr hU (by first | (clear ha2 hq0 hq1 hq2 hq3 hq4 hq5 hq8 h_1 h_2 h_3 h_4 h_5 h_6 h_7 h_8 h_9 h_10 h_11 h_46 h_57 h_58 h_144 h_145 h_148 h_149 h_154 h_155 h_156 h_157 h_158 h_159 h_160 h_161 h_163 h_176 hq6 hq7 h_12 h_21 h_37 h_162 h_174 hw_177; omega) | omega) (by first | (clear ha2 hq0 hq1 hq2 hq3 hq4 hq8 h_1 h_2 h_3 h_4 h_5 h_6 h_7 h_8 h_9 h_10 h_11 h_57 h_58 h_144 h_145 h_146 h_147 h_148 h_149 h_154 h_155 h_156 h_157 h_158 h_159 h_160 h_161 h_163 h_176 hq6 hq7 h_12 h_21 h_37 h_162 h_174 hw_177; omega) | omega) (fun j h1 h2 => ⟨(ln_in (e := e1) (a := (nx F e1 p0)) h1 h2).1, (ln_in (e := e1) (a := (nx F e1 p0)) h1 h2).2.1⟩)).trans (rfl)) (fun c_178 hI_179 hF_180 hz_181 => ?_))
    refine bk_inl ?_
    refine q_ldc_w_s rfl rfl rfl (by decide) ?_
    refine q_call rfl rfl rfl rfl (s_158_20 ?_)
    refine bk_inl ?_
    refine v_ic_ne_t (t := 94) rfl (by decide) ⟨(hid hw_177).2.2.2.2.2.2.2.2.1, ⟨(Int.le_trans (by decide) h_176.1), (Int.le_trans h_176.2 (by decide))⟩, by decide, by decide⟩ ?_
    refine q_aload_n rfl rfl ?_
    have kn_182 : Hid (c_178 41 3 = e1) := (hF_180 41 3 (fun h => absurd h.2 (ni rfl))).trans (hid kn_175)
    refine v_cv rfl rfl rfl rfl (by decide) ⟨⟨rfl, rfl⟩, by decide, rfl⟩ (Nat.le_of_ble_eq_true rfl) (Nat.le_of_ble_eq_true rfl) (f_157 (e1 := e1) (a9 := (nx F e1 p0)) (B := H) (r8 := (nx F e1 p0)) (L8 := (ln F e1 (nx F e1 p0))) (W8 := (wv F (nx F e1 p0) (ln F e1 (nx F e1 p0)))) hI_179 ((hid kn_182)) ((hz_181)) (fun j => ((hF_180 43 j (fun h => absurd h.1 (nn rfl))).trans ((hF_171 43 j (fun h => absurd h.1 (nn rfl))).trans (hF_166 43 j (fun h => absurd h.1 (nn rfl))))).trans (hH j)) ((nx_tr hU (by first | (clear ha2 hq0 hq1 hq2 hq3 hq4 hq5 hq8 h_1 h_2 h_3 h_4 h_5 h_6 h_7 h_8 h_9 h_10 h_11 h_46 h_57 h_58 h_144 h_145 h_148 h_149 h_154 h_155 h_156 h_157 h_158 h_159 h_160 h_161 h_163 h_176 hq6 hq7 h_12 h_21 h_37 h_162 h_174 hw_177; omega) | omega) (by first | (clear ha2 hq0 hq1 hq2 hq3 hq4 hq8 h_1 h_2 h_3 h_4 h_5 h_6 h_7 h_8 h_9 h_10 h_11 h_46 h_57 h_58 h_144 h_145 h_146 h_147 h_148 h_149 h_154 h_155 h_156 h_157 h_158 h_159 h_160 h_161 h_163 h_176 hq6 hq7 h_12 h_21 h_37 h_162 h_174 hw_177; omega) | omega)).trans ((nx_z (by omega)))) ((ln_tr hU (by first | (clear ha2 hq0 hq1 hq2 hq3 hq4 hq5 hq8 h_1 h_2 h_3 h_4 h_5 h_6 h_7 h_8 h_9 h_10 h_11 h_46 h_57 h_58 h_144 h_145 h_148 h_149 h_154 h_155 h_156 h_157 h_158 h_159 h_160 h_161 h_163 h_176 hq6 hq7 h_12 h_21 h_37 h_162 h_174 hw_177; omega) | omega) (by first | (clear ha2 hq0 hq1 hq2 hq3 hq4 hq8 h_1 h_2 h_3 h_4 h_5 h_6 h_7 h_8 h_9 h_10 h_11 h_46 h_57 h_58 h_144 h_145 h_146 h_147 h_148 h_149 h_154 h_155 h_156 h_157 h_158 h_159 h_160 h_161 h_163 h_176 hq6 hq7 h_12 h_21 h_37 h_162 h_174 hw_177; omega) | omega)).trans (rfl)) ((wv_tr hU (by first | (clear ha2 hq0 hq1 hq2 hq3 hq4 hq5 hq8 h_1 h_2 h_3 h_4 h_5 h_6 h_7 h_8 h_9 h_10 h_11 h_46 h_57 h_58 h_144 h_145 h_148 h_149 h_154 h_155 h_156 h_157 h_158 h_159 h_160 h_161 h_163 h_176 hq6 hq7 h_12 h_21 h_37 h_162 h_174 hw_177; omega) | omega) (by first | (clear ha2 hq0 hq1 hq2 hq3 hq4 hq8 h_1 h_2 h_3 h_4 h_5 h_6 h_7 h_8 h_9 h_10 h_11 h_57 h_58 h_144 h_145 h_146 h_147 h_148 h_149 h_154 h_155 h_156 h_157 h_158 h_159 h_160 h_161 h_163 h_176 hq6 hq7 h_12 h_21 h_37 h_162 h_174 hw_177; omega) | omega) (fun j h1 h2 => ⟨(ln_in (e := e1) (a := (nx F e1 p0)) h1 h2).1, (ln_in (e := e1) (a := (nx F e1 p0)) h1 h2).2.1⟩)).trans (rfl)) (fun c_183 hI_184 hF_185 hz_186 => ?_))
    refine bk_inl ?_
    refine q_ldc_w_s rfl rfl rfl (by decide) ?_
    refine q_call rfl rfl rfl rfl (s_158_21 ?_)
    refine bk_inl ?_
    refine v_ic_ne_t (t := 117) rfl (by decide) ⟨(hid hw_177).2.2.2.2.2.2.2.2.2, ⟨(Int.le_trans (by decide) h_176.1), (Int.le_trans h_176.2 (by decide))⟩, by decide, by decide⟩ ?_
    refine q_aload_n rfl rfl ?_
    refine v_cv rfl rfl rfl rfl (by decide) ⟨⟨rfl, rfl⟩, by decide, rfl⟩ (Nat.le_of_ble_eq_true rfl) (Nat.le_of_ble_eq_true rfl) ?_
    refine q_aload_n rfl rfl ?_
    have kn_187 : Hid (c_183 41 3 = e1) := (hF_185 41 3 (fun h => absurd h.2 (ni rfl))).trans (hid kn_182)
    refine v_cv rfl rfl rfl rfl (by decide) ⟨⟨rfl, rfl⟩, by decide, rfl⟩ (Nat.le_of_ble_eq_true rfl) (Nat.le_of_ble_eq_true rfl) (f_157 (e1 := e1) (a9 := (nx F e1 p0)) (B := H) (r8 := (nx F e1 p0)) (L8 := (ln F e1 (nx F e1 p0))) (W8 := (wv F (nx F e1 p0) (ln F e1 (nx F e1 p0)))) hI_184 ((hid kn_187)) ((hz_186)) (fun j => ((hF_185 43 j (fun h => absurd h.1 (nn rfl))).trans ((hF_180 43 j (fun h => absurd h.1 (nn rfl))).trans ((hF_171 43 j (fun h => absurd h.1 (nn rfl))).trans (hF_166 43 j (fun h => absurd h.1 (nn rfl)))))).trans (hH j)) ((nx_tr hU (by first | (clear ha2 hq0 hq1 hq2 hq3 hq4 hq5 hq8 h_1 h_2 h_3 h_4 h_5 h_6 h_7 h_8 h_9 h_10 h_11 h_46 h_57 h_58 h_144 h_145 h_148 h_149 h_154 h_155 h_156 h_157 h_158 h_159 h_160 h_161 h_163 h_176 hq6 hq7 h_12 h_21 h_37 h_162 h_174 hw_177; omega) | omega) (by first | (clear ha2 hq0 hq1 hq2 hq3 hq4 hq8 h_1 h_2 h_3 h_4 h_5 h_6 h_7 h_8 h_9 h_10 h_11 h_46 h_57 h_58 h_144 h_145 h_146 h_147 h_148 h_149 h_154 h_155 h_156 h_157 h_158 h_159 h_160 h_161 h_163 h_176 hq6 hq7 h_12 h_21 h_37 h_162 h_174 hw_177; omega) | omega)).trans ((nx_z (by omega)))) ((ln_tr hU (by first | (clear ha2 hq0 hq1 hq2 hq3 hq4 hq5 hq8 h_1 h_2 h_3 h_4 h_5 h_6 h_7 h_8 h_9 h_10 h_11 h_46 h_57 h_58 h_144 h_145 h_148 h_149 h_154 h_155 h_156 h_157 h_158 h_159 h_160 h_161 h_163 h_176 hq6 hq7 h_12 h_21 h_37 h_162 h_174 hw_177; omega) | omega) (by first | (clear ha2 hq0 hq1 hq2 hq3 hq4 hq8 h_1 h_2 h_3 h_4 h_5 h_6 h_7 h_8 h_9 h_10 h_11 h_46 h_57 h_58 h_144 h_145 h_146 h_147 h_148 h_149 h_154 h_155 h_156 h_157 h_158 h_159 h_160 h_161 h_163 h_176 hq6 hq7 h_12 h_21 h_37 h_162 h_174 hw_177; omega) | omega)).trans (rfl)) ((wv_tr hU (by first | (clear ha2 hq0 hq1 hq2 hq3 hq4 hq5 hq8 h_1 h_2 h_3 h_4 h_5 h_6 h_7 h_8 h_9 h_10 h_11 h_46 h_57 h_58 h_144 h_145 h_148 h_149 h_154 h_155 h_156 h_157 h_158 h_159 h_160 h_161 h_163 h_176 hq6 hq7 h_12 h_21 h_37 h_162 h_174 hw_177; omega) | omega) (by first | (clear ha2 hq0 hq1 hq2 hq3 hq4 hq8 h_1 h_2 h_3 h_4 h_5 h_6 h_7 h_8 h_9 h_10 h_11 h_57 h_58 h_144 h_145 h_146 h_147 h_148 h_149 h_154 h_155 h_156 h_157 h_158 h_159 h_160 h_161 h_163 h_176 hq6 hq7 h_12 h_21 h_37 h_162 h_174 hw_177; omega) | omega) (fun j h1 h2 => ⟨(ln_in (e := e1) (a := (nx F e1 p0)) h1 h2).1, (ln_in (e := e1) (a := (nx F e1 p0)) h1 h2).2.1⟩)).trans (rfl)) (fun c_188 hI_189 hF_190 hz_191 => ?_))
    refine bk_inl ?_
    refine q_istore_n rfl (by decide) ?_
    refine q_iload_n rfl rfl ?_
    refine q_ldc_s rfl rfl rfl (by decide) ?_
    refine q_call rfl rfl rfl rfl (s_158_22 ?_)
    refine bk_inl ?_
    refine v_ic_ne_t (t := 18) rfl (by decide) ⟨(hid hw_177).1, ⟨(Int.le_trans (by decide) h_176.1), (Int.le_trans h_176.2 (by decide))⟩, by decide, by decide⟩ ?_
    refine q_iload_n rfl rfl ?_
    refine q_ldc_s rfl rfl rfl (by decide) ?_
    refine q_call rfl rfl rfl rfl (s_158_23 ?_)
    refine bk_inl ?_
    refine v_ic_ne_t (t := 31) rfl (by decide) ⟨(hid hw_177).2.1, ⟨(Int.le_trans (by decide) h_176.1), (Int.le_trans h_176.2 (by decide))⟩, by decide, by decide⟩ ?_
    refine q_iload_n rfl rfl ?_
    refine q_ldc_w_s rfl rfl rfl (by decide) ?_
    refine q_call rfl rfl rfl rfl (s_158_24 ?_)
    refine bk_inl ?_
    refine v_ic_ne_t (t := 45) rfl (by decide) ⟨(hid hw_177).2.2.1, ⟨(Int.le_trans (by decide) h_176.1), (Int.le_trans h_176.2 (by decide))⟩, by decide, by decide⟩ ?_
    refine q_iload_n rfl rfl ?_
    refine q_ldc_w_s rfl rfl rfl (by decide) ?_
    refine q_call rfl rfl rfl rfl (s_158_25 ?_)
    refine bk_inl ?_
    refine v_ic_ne_t (t := 59) rfl (by decide) ⟨(hid hw_177).2.2.2.1, ⟨(Int.le_trans (by decide) h_176.1), (Int.le_trans h_176.2 (by decide))⟩, by decide, by decide⟩ ?_
    refine q_iload_n rfl rfl ?_
    refine q_ldc_w_s rfl rfl rfl (by decide) ?_
    refine q_call rfl rfl rfl rfl (s_158_26 ?_)
    refine bk_inl ?_
    refine v_ic_ne_t (t := 73) rfl (by decide) ⟨(hid hw_177).2.2.2.2.1, ⟨(Int.le_trans (by decide) h_176.1), (Int.le_trans h_176.2 (by decide))⟩, by decide, by decide⟩ ?_
    refine q_iload_n rfl rfl ?_
    refine q_ldc_w_s rfl rfl rfl (by decide) ?_
    refine q_call rfl rfl rfl rfl (s_158_27 ?_)
    refine bk_inl ?_
    refine v_ic_ne_t (t := 87) rfl (by decide) ⟨(hid hw_177).2.2.2.2.2.1, ⟨(Int.le_trans (by decide) h_176.1), (Int.le_trans h_176.2 (by decide))⟩, by decide, by decide⟩ ?_
    refine q_iload_n rfl rfl ?_
    refine q_ldc_w_s rfl rfl rfl (by decide) ?_
    refine q_call rfl rfl rfl rfl (s_158_28 ?_)
    refine bk_inl ?_
    refine v_ic_ne_t (t := 102) rfl (by decide) ⟨(hid hw_177).2.2.2.2.2.2.1, ⟨(Int.le_trans (by decide) h_176.1), (Int.le_trans h_176.2 (by decide))⟩, by decide, by decide⟩ ?_
    refine q_iload_n rfl rfl ?_
    refine q_ldc_s rfl rfl rfl (by decide) ?_
    refine q_call rfl rfl rfl rfl (s_158_16 ?_)
    refine bk_inl ?_
    refine v_ic_ne_t (t := 116) rfl (by decide) ⟨(hid hw_177).2.2.2.2.2.2.2.1, ⟨(Int.le_trans (by decide) h_176.1), (Int.le_trans h_176.2 (by decide))⟩, by decide, by decide⟩ ?_
    refine q_iconst rfl ?_
    refine q_iret rfl rfl ?_
    refine bk_inl ?_
    refine q_istore_n rfl (by decide) ?_
    refine q_iload_n rfl rfl ?_
    refine q_iconst rfl ?_
    refine v_ic_ne_f (t := 136) rfl (by decide) (by decide) ?_
    refine q_aload_n rfl rfl ?_
    refine q_iconst rfl ?_
    refine q_aload_n rfl rfl ?_
    refine v_gi (z := 4) (v := (nx F e1 p0)) rfl rfl rfl (by decide) rfl rfl (hz_191) ?_
    refine v_cv rfl rfl rfl rfl (by decide) ⟨⟨rfl, rfl⟩, by decide, rfl⟩ (Nat.le_of_ble_eq_true rfl) (Nat.le_of_ble_eq_true rfl) ?_
    refine q_aload_n rfl rfl ?_
    have kn_192 : Hid (c_164 41 5 = (-1)) := (hF_166 41 5 (fun h => absurd h.2 (ni rfl))).trans hro_hRt.2.1
    have kn_193 : Hid (c_169 41 5 = (-1)) := (hF_171 41 5 (fun h => absurd h.2 (ni rfl))).trans (hid kn_192)
    have kn_194 : Hid (c_178 41 5 = (-1)) := (hF_180 41 5 (fun h => absurd h.2 (ni rfl))).trans (hid kn_193)
    have kn_195 : Hid (c_183 41 5 = (-1)) := (hF_185 41 5 (fun h => absurd h.2 (ni rfl))).trans (hid kn_194)
    have kn_196 : Hid (c_188 41 5 = (-1)) := (hF_190 41 5 (fun h => absurd h.2 (ni rfl))).trans (hid kn_195)
    refine v_gi (z := 5) (v := (-1)) rfl rfl rfl (by decide) rfl rfl (hid kn_196) ?_
    refine q_iconst rfl ?_
    refine v_ic_eq_t (t := 9) rfl (by decide) (by decide) ?_
    refine q_aload_n rfl rfl ?_
    refine q_iload_n rfl rfl ?_
    refine v_pi (z := 5) rfl rfl rfl (by decide) rfl rfl rfl (by decide) ?_
    refine q_aload_n rfl rfl ?_
    refine q_iload_n rfl rfl ?_
    refine v_pi (z := 6) rfl rfl rfl (by decide) rfl rfl rfl (by decide) ?_
    refine q_vret rfl rfl ?_
    refine bk_inl ?_
    refine q_aload_n rfl rfl ?_
    refine v_cv rfl rfl rfl rfl (by decide) ⟨⟨rfl, rfl⟩, by decide, rfl⟩ (Nat.le_of_ble_eq_true rfl) (Nat.le_of_ble_eq_true rfl) ?_
    refine q_aload_n rfl rfl ?_
    refine v_gi (z := 5) (v := (nx F e1 p0)) rfl rfl rfl (by decide) rfl rfl ((up_n (by decide)).trans (up_e rfl)) ?_
    refine q_iconst rfl ?_
    refine v_ic_ne_t (t := 12) rfl (by decide) ⟨(ne_rg (rg_be h_10 ((rg_eq hg_p0 h_5).1) ((rg_eq hg_e1 h_1).2)) (by decide)), ⟨(Int.le_trans (by decide) (rg_be h_10 ((rg_eq hg_p0 h_5).1) ((rg_eq hg_e1 h_1).2)).1), (Int.le_trans (rg_be h_10 ((rg_eq hg_p0 h_5).1) ((rg_eq hg_e1 h_1).2)).2 (by decide))⟩, by decide, by decide⟩ ?_
    refine q_iconst rfl ?_
    refine v_zret rfl rfl (by decide) ?_
    refine bk_inl ?_
    refine v_if_ne_f (t := 144) rfl (by decide) (by decide) ?_
    refine q_vret rfl rfl ?_
    have hI_197 := iw_41_5 (v := (nx F e1 p0)) hI_189 ⟨(Int.le_trans (by decide) (rg_be h_10 ((rg_eq hg_p0 h_5).1) ((rg_eq hg_e1 h_1).2)).1), (Int.le_trans (rg_be h_10 ((rg_eq hg_p0 h_5).1) ((rg_eq hg_e1 h_1).2)).2 (by decide))⟩
    have hI_198 := iw_41_6 (v := 1) hI_197 ⟨by decide, by decide⟩
    have h_199 : (up (up c_188 41 5 (nx F e1 p0)) 41 6 1) 41 5 = (nx F e1 p0) := ((up_n (by decide)).trans (up_e rfl))
    have h_200 : (up (up c_188 41 5 (nx F e1 p0)) 41 6 1) 41 4 = (nx F e1 p0) := ((up_n (by decide)).trans ((up_n (by decide)).trans (hz_191)))
    have h_201 : (up (up c_188 41 5 (nx F e1 p0)) 41 6 1) 41 6 = 1 := (up_e rfl)
    have kn_202 : Hid (c_164 41 29 = n0) := (hF_166 41 29 (fun h => absurd h.2 (ni rfl))).trans (hr_n0)
    have kn_203 : Hid (c_169 41 29 = n0) := (hF_171 41 29 (fun h => absurd h.2 (ni rfl))).trans (hid kn_202)
    have kn_204 : Hid (c_178 41 29 = n0) := (hF_180 41 29 (fun h => absurd h.2 (ni rfl))).trans (hid kn_203)
    have kn_205 : Hid (c_183 41 29 = n0) := (hF_185 41 29 (fun h => absurd h.2 (ni rfl))).trans (hid kn_204)
    have kn_206 : Hid (c_188 41 29 = n0) := (hF_190 41 29 (fun h => absurd h.2 (ni rfl))).trans (hid kn_205)
    have h_207 : (up (up c_188 41 5 (nx F e1 p0)) 41 6 1) 41 29 = n0 := ((up_n (by decide)).trans ((up_n (by decide)).trans (hid kn_206)))
    have kn_208 : Hid (c_164 41 7 = o0) := (hF_166 41 7 (fun h => absurd h.2 (ni rfl))).trans (hr_o0)
    have kn_209 : Hid (c_169 41 7 = o0) := (hF_171 41 7 (fun h => absurd h.2 (ni rfl))).trans (hid kn_208)
    have kn_210 : Hid (c_178 41 7 = o0) := (hF_180 41 7 (fun h => absurd h.2 (ni rfl))).trans (hid kn_209)
    have kn_211 : Hid (c_183 41 7 = o0) := (hF_185 41 7 (fun h => absurd h.2 (ni rfl))).trans (hid kn_210)
    have kn_212 : Hid (c_188 41 7 = o0) := (hF_190 41 7 (fun h => absurd h.2 (ni rfl))).trans (hid kn_211)
    have h_213 : (up (up c_188 41 5 (nx F e1 p0)) 41 6 1) 41 7 = o0 := ((up_n (by decide)).trans ((up_n (by decide)).trans (hid kn_212)))
    have h_214 : (up (up c_188 41 5 (nx F e1 p0)) 41 6 1) 41 29 = n0 := ((up_n (by decide)).trans ((up_n (by decide)).trans (hid kn_206)))
    exact K (up (up c_188 41 5 (nx F e1 p0)) 41 6 1)  hI_198 (fun a j hm => (up_b (Decidable.or_iff_not_imp_left.mpr (fun h1 h2 => hm (Or.inr (Or.inr (Or.inl ⟨Decidable.not_not.mp h1, h2⟩)))))).trans ((up_b (Decidable.or_iff_not_imp_left.mpr (fun h1 h2 => hm (Or.inr (Or.inl ⟨Decidable.not_not.mp h1, h2⟩))))).trans ((hF_190 a j (fun h => hm (Or.inl h))).trans ((hF_185 a j (fun h => hm (Or.inl h))).trans ((hF_180 a j (fun h => hm (Or.inl h))).trans ((hF_171 a j (fun h => hm (Or.inl h))).trans (hF_166 a j (fun h => hm (Or.inl h))))))))) (rt_i2 ⟨⟨by first | (clear ha2 hq0 hq1 hq2 hq3 hq4 hq5 hq8 h_1 h_2 h_3 h_4 h_5 h_6 h_7 h_8 h_9 h_10 h_11 h_46 h_57 h_58 h_144 h_146 h_147 h_148 h_149 h_154 h_155 h_156 h_157 h_158 h_159 h_160 h_161 h_163 h_176 hq6 hq7 h_12 h_21 h_37 h_162 h_174 hw_177; omega) | omega, by first | (clear ha2 hq0 hq1 hq2 hq3 hq4 hq5 hq8 h_1 h_2 h_3 h_4 h_5 h_6 h_7 h_8 h_9 h_10 h_11 h_46 h_57 h_58 h_144 h_146 h_147 h_148 h_149 h_154 h_155 h_156 h_157 h_158 h_159 h_160 h_161 h_163 h_176 hq6 hq7 h_12 h_21 h_37 h_162 h_174 hw_177; omega) | omega⟩, by first | (clear ha2 hq0 hq1 hq2 hq3 hq4 hq5 hq8 h_1 h_2 h_3 h_4 h_5 h_6 h_7 h_8 h_9 h_10 h_11 h_46 h_57 h_58 h_144 h_145 h_146 h_147 h_148 h_154 h_155 h_156 h_157 h_158 h_159 h_160 h_161 h_163 h_176 hq6 hq7 h_12 h_21 h_37 h_162 h_174 hw_177; omega) | omega, by first | (clear ha2 hq0 hq1 hq2 hq3 hq4 hq5 hq8 h_1 h_2 h_3 h_4 h_5 h_6 h_7 h_8 h_9 h_10 h_11 h_46 h_57 h_58 h_144 h_145 h_148 h_154 h_155 h_156 h_157 h_158 h_159 h_160 h_161 h_163 h_176 hq6 hq7 h_12 h_21 h_37 h_162 h_174 hw_177; omega) | omega, by first | (clear ha2 hq0 hq1 hq2 hq3 hq4 hq5 hq8 h_1 h_2 h_3 h_4 h_5 h_6 h_7 h_8 h_9 h_10 h_11 h_46 h_57 h_58 h_144 h_146 h_147 h_148 h_149 h_154 h_155 h_156 h_157 h_158 h_159 h_160 h_161 h_163 h_176 hq6 hq7 h_12 h_21 h_37 h_162 h_174 hw_177; omega) | omega⟩) (Or.inr (Or.inl (by first | (clear ha2 hq0 hq1 hq2 hq3 hq4 hq5 hq8 h_1 h_2 h_3 h_4 h_5 h_6 h_7 h_8 h_9 h_10 h_11 h_46 h_57 h_58 h_144 h_146 h_147 h_148 h_149 h_154 h_155 h_156 h_157 h_158 h_159 h_160 h_161 h_163 h_176 hq6 hq7 h_12 h_21 h_37 h_162 h_174 hw_177; omega) | omega))) (by first | (clear ha2 hq0 hq1 hq3 hq4 hq5 hq8 h_1 h_2 h_3 h_4 h_5 h_6 h_7 h_8 h_9 h_10 h_11 h_46 h_57 h_58 h_144 h_145 h_146 h_147 h_148 h_149 h_154 h_155 h_156 h_157 h_158 h_159 h_160 h_161 h_163 h_176 hq6 hq7 h_12 h_21 h_37 h_162 h_174 hw_177; omega) | omega) (fun hz => absurd hz (by omega))

