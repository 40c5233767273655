/-! ===== class and reference side by side 7 ===== -/
set_option maxRecDepth 100000 in
set_option maxHeartbeats 4000000 in
theorem L_14_d {sc : List Int32} {e eg : Int} {d dh u ug P Q P2 Q2 A : Nat} {c m m9 : ME} {a2 e1 f0 g0 p0 n0 o0 : Int} {F H : Int → Int} {Z : AR → Prop} (hI : Iv u e P2 Q2 c) (hJ : Iv ug eg P Q m) (hJ9 : Iv ug eg P Q m9) (hA : A = 13 ∨ A = 25) (ha2 : 0 ≤ a2 ∧ a2 ≤ 6) (hq0 : (f0 = 0)) (hq1 : (g0 = (-1))) (hq2 : (o0 = a2)) (hq3 : (n0 ≤ p0)) (hq4 : (p0 ≤ e1)) (hq5 : (e1 ≤ 150)) (hq6 : ((nx F e1 p0) ≥ e1) ∨ ((F (nx F e1 p0)) < 48) ∨ ((F (nx F e1 p0)) > 57)) (hq7 : ((nx F e1 p0) ≥ e1) ∨ ((F (nx F e1 p0)) < 40) ∨ ((F (nx F e1 p0)) > 40)) (hq8 : ((wd1_0 F (nx F e1 p0) (ln F e1 (nx F e1 p0))) ≥ 0 ∧ (wd1_0 F (nx F e1 p0) (ln F e1 (nx F e1 p0))) ≤ 7)) (hg_e1 : m 1 1 = e1) (hr_e1 : c 41 3 = e1) (hg_f0 : m 1 4 = f0) (hg_g0 : m 1 5 = g0) (hg_p0 : m 1 2 = p0) (hg_n0 : m (A + 7) 5 = n0) (hr_n0 : c 41 29 = n0) (hr_o0 : c 41 7 = o0) (hF : ∀ j : Int, m 2 j = F j) (hH : ∀ j : Int, c 43 j = H j) (hU : Ub F H) (hRt : Rt m c) (hr0 : Ce n0 (m (A + 9)) (c 50) (c 51)) (H13 : ∀ {d9 : Nat} {c m m9 : ME} {e1 f0 g0 p0 n0 o0 : Int} {Z : AR → Prop}, d ≤ d9 → a2 + 1 ≤ 6 → (Iv u e P2 Q2 c) → (Iv ug eg P Q m) → (Iv ug eg P Q m9) → (0 ≤ (a2 + 1) ∧ (a2 + 1) ≤ 6) → ((f0 = 0)) → ((g0 = (-1))) → ((o0 = (a2 + 1))) → ((n0 ≤ p0)) → ((p0 ≤ e1)) → ((e1 ≤ 150)) → (m 1 1 = e1) → (c 41 3 = e1) → (m 1 4 = f0) → (m 1 5 = g0) → (m 1 2 = p0) → (m (A + 7) 5 = n0) → (c 41 29 = n0) → (c 41 7 = o0) → (∀ j : Int, m 2 j = F j) → (∀ j : Int, c 43 j = H j) → (Ub F H) → (Rt m c) → (Ce n0 (m (A + 9)) (c 50) (c 51)) → (Wp sc (dh + 33) 13 0 [(0, .ref (A + 7)), (1, .ref 1), (2, vi (a2 + 1))] [] (Wd P Q P P m) 0 0 (fun q => q = (.inl (none), Wd P Q P P m9, 0, 0))) → (∀ (c2 : ME), Iv u e P2 Q2 c2 → (∀ (a : Nat) (j : Int), ¬ ((a = 41 ∧ j = 4) ∨ (a = 41 ∧ j = 5) ∨ (a = 41 ∧ j = 6) ∨ (a = 41 ∧ j = 7) ∨ (a = 41 ∧ j = 29) ∨ a = 50 ∨ a = 51) → c2 a j = c a j) → (Rt m9 c2) → ((m9 1 4 < 0) ∨ (m9 1 4 > 0) ∨ (m9 (A + 7) 5 = c2 41 29 ∧ c2 41 29 + p0 ≤ m9 1 2 + n0 ∧ m9 1 2 ≤ e1 ∧ m9 1 2 ≥ p0)) → ((c2 41 7 = (a2 + 1))) → (m9 1 4 = 0 → Ce (c2 41 29) (m9 (A + 9)) (c2 50) (c2 51)) → Z (.inl (none), Wd P2 Q2 P2 P2 c2, 0, 0)) → Wp sc (d9 + 32) 174 0 [(0, .ref 41)] [] (Wd P2 Q2 P2 P2 c) 0 0 Z) (hG : Wp sc (dh + 34) 14 0 [(0, .ref (A + 7)), (1, .ref 1), (2, vi a2)] [] (Wd P Q P P m) 0 0 (fun q => q = (.inl (none), Wd P Q P P m9, 0, 0))) (K : ∀ (c2 : ME), Iv u e P2 Q2 c2 → (∀ (a : Nat) (j : Int), ¬ ((a = 41 ∧ j = 4) ∨ (a = 41 ∧ j = 5) ∨ (a = 41 ∧ j = 6) ∨ (a = 41 ∧ j = 7) ∨ (a = 41 ∧ j = 29) ∨ a = 50 ∨ a = 51) → c2 a j = c a j) → (Rt m9 c2) → ((m9 1 4 < 0) ∨ (m9 1 4 > 0) ∨ (m9 (A + 7) 5 = c2 41 29 ∧ c2 41 29 + p0 ≤ m9 1 2 + n0 ∧ m9 1 2 ≤ e1 ∧ m9 1 2 ≥ p0)) → ((c2 41 7 = a2)) → (m9 1 4 = 0 → Ce (c2 41 29) (m9 (A + 9)) (c2 50) (c2 51)) → Z (.inl (none), Wd P2 Q2 P2 P2 c2, 0, 0)) : Wp sc (d + 34) 176 0 [(0, .ref 41)] [] (Wd P2 Q2 P2 P2 c) 0 0 Z := by
  have hP := iv_P hJ
  have hQ := iv_Q hJ
  have h_1 := ir_1_1 hJ
  have h_2 := ir_41_3 hI
  have h_3 := ir_1_4 hJ
  have h_4 := ir_1_5 hJ
  have h_5 := ir_1_2 hJ
  have h_6 := ir_p7_5 hJ hA
  have h_7 := ir_41_29 hI
  have h_8 := ir_41_7 hI
  refine gh hG ?_
  refine q_aload_n rfl rfl ?_
  have h_9 : -2147483648 ≤ (F p0) ∧ (F p0) ≤ 2147483647 := by rw [← hF p0]; exact ir_2 hJ p0
  have h_10 := nx_be (b := F) (e := e1) (a := p0) (by first | (clear ha2 hq0 hq1 hq2 hq3 hq5 hq8 h_1 h_2 h_3 h_4 h_5 h_6 h_7 h_8 h_9 hq6 hq7; omega) | omega)
  have h_11 : -2147483648 ≤ (F (nx F e1 p0)) ∧ (F (nx F e1 p0)) ≤ 2147483647 := by rw [← hF (nx F e1 p0)]; exact ir_2 hJ (nx F e1 p0)
  have h_12 := nx_n (b := F) (e := e1) (a := p0)
  refine v_cv rfl rfl rfl rfl (by decide) ⟨⟨rfl, rfl⟩, by decide, rfl⟩ (Nat.le_of_ble_eq_true rfl) (Nat.le_of_ble_eq_true rfl) (f_6 (e1 := e1) (a9 := p0) (B := F) (r8 := (nx F e1 p0)) hJ ((hg_e1)) ((hg_p0)) (fun j => hF j) rfl (fun c_13 hI_14 hF_15 h_16 hz_17 => by exfalso; omega) (fun c_18 hI_19 hF_20 h_21 hz_22 => ?_))
  refine bk_inl ?_
  refine v_if_eq_t (t := 19) rfl (by decide) (by decide) ?_
  refine q_aload_n rfl rfl ?_
  have kn_23 : Hid (c_18 1 1 = e1) := (hF_20 1 1 (fun h => absurd h.2 (ni rfl))).trans (hg_e1)
  refine v_cv rfl rfl rfl rfl (by decide) ⟨⟨rfl, rfl⟩, by decide, rfl⟩ (Nat.le_of_ble_eq_true rfl) (Nat.le_of_ble_eq_true rfl) (f_3 (e1 := e1) (a9 := (nx F e1 p0)) (B := F) (r8 := (nx F e1 p0)) hI_19 ((hid kn_23)) ((hz_22)) (fun j => (hF_20 2 j (fun h => absurd h.1 (nn rfl))).trans (hF j)) (nx_z (by omega)) (fun c_24 hI_25 hF_26 hz_27 => ?_))
  refine bk_inl ?_
  refine q_istore_n rfl (by decide) ?_
  refine q_aload_n rfl rfl ?_
  refine q_ldc_s rfl rfl rfl (by decide) ?_
  have kn_28 : Hid (c_24 1 1 = e1) := (hF_26 1 1 (fun h => absurd h.2 (ni rfl))).trans (hid kn_23)
  refine v_cv rfl rfl rfl rfl (by decide) ⟨⟨rfl, rfl⟩, by decide, rfl⟩ (Nat.le_of_ble_eq_true rfl) (Nat.le_of_ble_eq_true rfl) (f_4_0 (e1 := e1) (a9 := (nx F e1 p0)) (B := F) (r8 := (nx F e1 p0)) hI_25 ((hid kn_28)) ((hz_27)) (fun j => ((hF_26 2 j (fun h => absurd h.1 (nn rfl))).trans (hF_20 2 j (fun h => absurd h.1 (nn rfl)))).trans (hF j)) (nx_z (by omega)) (fun c_29 hI_30 hF_31 h_32 hz_33 => by exfalso; omega) (fun c_34 hI_35 hF_36 h_37 hz_38 => ?_))
  refine bk_inl ?_
  refine q_iconst rfl ?_
  refine v_ic_eq_t (t := 38) rfl (by decide) (by decide) ?_
  refine q_iconst rfl ?_
  refine q_istore rfl (by decide) ?_
  refine q_iload rfl rfl ?_
  refine v_if_eq_t (t := 50) rfl (by decide) (by decide) ?_
  refine q_aload_n rfl rfl ?_
  refine q_ldc_s rfl rfl rfl (by decide) ?_
  have kn_39 : Hid (c_34 1 1 = e1) := (hF_36 1 1 (fun h => absurd h.2 (ni rfl))).trans (hid kn_28)
  have kn_40 : Hid (c_18 1 4 = f0) := (hF_20 1 4 (fun h => absurd h.2 (ni rfl))).trans (hg_f0)
  have kn_41 : Hid (c_24 1 4 = f0) := (hF_26 1 4 (fun h => absurd h.2 (ni rfl))).trans (hid kn_40)
  have kn_42 : Hid (c_34 1 4 = f0) := (hF_36 1 4 (fun h => absurd h.2 (ni rfl))).trans (hid kn_41)
  have kn_43 : Hid (c_18 1 5 = g0) := (hF_20 1 5 (fun h => absurd h.2 (ni rfl))).trans (hg_g0)
  have kn_44 : Hid (c_24 1 5 = g0) := (hF_26 1 5 (fun h => absurd h.2 (ni rfl))).trans (hid kn_43)
  have kn_45 : Hid (c_34 1 5 = g0) := (hF_36 1 5 (fun h => absurd h.2 (ni rfl))).trans (hid kn_44)
  have h_46 := ln_be (b := F) (e := e1) (a := (nx F e1 p0)) (by first | (clear ha2 hq0 hq1 hq2 hq3 hq4 hq5 hq8 h_1 h_2 h_3 h_4 h_5 h_6 h_7 h_8 h_9 h_11 hq6 hq7 h_12 h_21 h_37; omega) | omega)
  refine v_cv rfl rfl rfl rfl (by decide) ⟨⟨rfl, rfl⟩, by decide, rfl⟩ (Nat.le_of_ble_eq_true rfl) (Nat.le_of_ble_eq_true rfl) (f_10_1 (e1 := e1) (a9 := (nx F e1 p0)) (f9 := f0) (p9 := g0) (B := F) (r8 := (nx F e1 p0)) (L8 := (ln F e1 (nx F e1 p0))) (W8 := (wd1_0 F (nx F e1 p0) (ln F e1 (nx F e1 p0)))) hI_35 ((hid kn_39)) ((hz_38)) ((hid kn_42)) ((hid kn_45)) (fun j => ((hF_36 2 j (fun h => absurd h.1 (nn rfl))).trans ((hF_26 2 j (fun h => absurd h.1 (nn rfl))).trans (hF_20 2 j (fun h => absurd h.1 (nn rfl))))).trans (hF j)) (nx_z (by omega)) rfl rfl (fun c_47 hI_48 hF_49 h_50 hz_51 hz_52 hz_53 => by exfalso; omega) (fun c_54 hI_55 hF_56 h_57 h_58 hz_59 hz_60 hz_61 => by exfalso; first | (clear ha2 hq0 hq1 hq2 hq3 hq4 hq5 h_1 h_2 h_3 h_4 h_5 h_6 h_7 h_8 h_9 h_10 h_11 h_46 hq6 hq7 h_12 h_21 h_37; omega) | omega) (fun c_62 hI_63 hF_64 h_65 h_66 hz_67 hz_68 hz_69 => ?_))
  refine bk_inl ?_
  refine q_istore rfl (by decide) ?_
  refine q_iload rfl rfl ?_
  refine q_iconst rfl ?_
  refine v_ic_eq_f (t := 82) rfl (by decide) ⟨by first | (clear ha2 hq0 hq1 hq2 hq3 hq4 hq5 h_1 h_2 h_3 h_4 h_5 h_6 h_7 h_8 h_9 h_10 h_11 h_46 h_65 h_66 hq6 hq7 h_12 h_21 h_37; omega) | omega, ⟨by first | (clear ha2 hq0 hq1 hq2 hq3 hq4 hq5 h_1 h_2 h_3 h_4 h_5 h_6 h_7 h_8 h_9 h_10 h_11 h_46 h_65 h_66 hq6 hq7 h_12 h_21 h_37; omega) | omega, by first | (clear ha2 hq0 hq1 hq2 hq3 hq4 hq5 h_1 h_2 h_3 h_4 h_5 h_6 h_7 h_8 h_9 h_10 h_11 h_46 h_65 h_66 hq6 hq7 h_12 h_21 h_37; omega) | omega⟩, by decide, by decide⟩ ?_
  refine q_iload rfl rfl ?_
  refine v_bip rfl (by decide) ?_
  refine v_ic_ge_f (t := 82) rfl (by decide) ⟨by first | (clear ha2 hq0 hq1 hq2 hq3 hq4 hq5 h_1 h_2 h_3 h_4 h_5 h_6 h_7 h_8 h_9 h_10 h_11 h_46 h_65 h_66 hq6 hq7 h_12 h_21 h_37; omega) | omega, by first | (clear ha2 hq0 hq1 hq2 hq3 hq4 hq5 h_1 h_2 h_3 h_4 h_5 h_6 h_7 h_8 h_9 h_10 h_11 h_46 h_65 h_66 hq6 hq7 h_12 h_21 h_37; omega) | omega, by decide⟩ ?_
  refine q_aload_n rfl rfl ?_
  refine v_sip rfl (by decide) ?_
  refine q_iload rfl rfl ?_
  refine v_iadd (v := (wd1_0 F (nx F e1 p0) (ln F e1 (nx F e1 p0))) + 1000) rfl (by first | (clear ha2 hq0 hq1 hq2 hq3 hq4 hq5 hq8 h_1 h_2 h_3 h_4 h_5 h_6 h_7 h_8 h_9 h_10 h_11 h_46 h_65 h_66 hq6 hq7 h_12 h_21 h_37; omega) | omega) ?_
  refine v_cv rfl rfl rfl (ck_p7 hA) (a68 hA rfl) ⟨⟨rfl, rfl⟩, by decide, rfl⟩ (Nat.le_of_ble_eq_true rfl) (Nat.le_of_ble_eq_true rfl) ?_
  refine q_aload_n rfl rfl ?_
  have kn_70 : Hid (c_18 (A + 7) 5 = n0) := (hF_20 (A + 7) 5 (fun h => absurd h.1 (np hA rfl rfl))).trans (hg_n0)
  have kn_71 : Hid (c_24 (A + 7) 5 = n0) := (hF_26 (A + 7) 5 (fun h => absurd h.1 (np hA rfl rfl))).trans (hid kn_70)
  have kn_72 : Hid (c_34 (A + 7) 5 = n0) := (hF_36 (A + 7) 5 (fun h => absurd h.1 (np hA rfl rfl))).trans (hid kn_71)
  have kn_73 : Hid (c_62 (A + 7) 5 = n0) := (hF_64 (A + 7) 5 (fun q => q.elim (fun h => absurd h.1 (np hA rfl rfl)) (fun q => q.elim (fun h => absurd h.1 (np hA rfl rfl)) (fun h => absurd h.1 (np hA rfl rfl))))).trans (hid kn_72)
  refine v_gi (z := 5) (v := n0) rfl rfl (ck_p7 hA) (a68 hA rfl) rfl rfl (hid kn_73) ?_
  refine q_aload_n rfl rfl ?_
  refine v_gr (t := (A + 9)) rfl rfl (ck_p7 hA) (a68 hA rfl) rfl ?_
  refine v_al rfl (ck_p9 hA) (a68 hA rfl) (by decide) ?_
  by_cases h_74 : n0 ≥ 150
  · refine v_ic_ge_t (t := 32) rfl (by decide) ⟨by decide, h_74, (Int.le_trans (rg_eq hg_n0 h_6).2 (by decide))⟩ ?_
    refine q_vret rfl rfl ?_
    refine bk_inl ?_
    refine q_vret rfl rfl ?_
    intro hE_75
    have hW : Wd P Q P P c_62 = Wd P Q P P m9 := (Prod.mk.inj (Prod.mk.inj hE_75).2).1
    have h_76 := ir_1_4 hJ9
    have h_77 : m9 1 4 = 0 := wd_fv (z := 4) 4 rfl hW rfl rfl rfl rfl (by decide) (hz_68) ⟨by decide, by decide⟩ ⟨(Int.le_trans (by decide) h_76.1), (Int.le_trans h_76.2 (by decide))⟩
    have h_78 := ir_1_2 hJ9
    have h_79 : m9 1 2 = (ln F e1 (nx F e1 p0)) := wd_fv (z := 2) 2 rfl hW rfl rfl rfl rfl (by decide) (hz_67) ⟨(Int.le_trans (by decide) (rg_be h_46 ((rg_be h_10 ((rg_eq hg_p0 h_5).1) ((rg_eq hg_e1 h_1).2)).1) ((rg_eq hg_e1 h_1).2)).1), (Int.le_trans (rg_be h_46 ((rg_be h_10 ((rg_eq hg_p0 h_5).1) ((rg_eq hg_e1 h_1).2)).1) ((rg_eq hg_e1 h_1).2)).2 (by decide))⟩ ⟨(Int.le_trans (by decide) h_78.1), (Int.le_trans h_78.2 (by decide))⟩
    have h_80 := ir_1_5 hJ9
    have h_81 : m9 1 5 = g0 := wd_fv (z := 5) 5 rfl hW rfl rfl rfl rfl (by decide) (hz_69) ⟨(Int.le_trans (by decide) (rg_eq hg_g0 h_4).1), (Int.le_trans (rg_eq hg_g0 h_4).2 (by decide))⟩ ⟨(Int.le_trans (by decide) h_80.1), (Int.le_trans h_80.2 (by decide))⟩
    have h_82 := ir_p7_5 hJ9 hA
    have h_83 : m9 (A + 7) 5 = n0 := wd_fv (z := 5) 5 rfl hW (ck_p7 hA) (ck_p7 hA) rfl rfl (by omega) (hid kn_73) ⟨(Int.le_trans (by decide) (rg_eq hg_n0 h_6).1), (Int.le_trans (rg_eq hg_n0 h_6).2 (by decide))⟩ ⟨(Int.le_trans (by decide) h_82.1), (Int.le_trans h_82.2 (by decide))⟩
    refine q_aload_n rfl rfl ?_
    refine v_cv rfl rfl rfl rfl (by decide) ⟨⟨rfl, rfl⟩, by decide, rfl⟩ (Nat.le_of_ble_eq_true rfl) (Nat.le_of_ble_eq_true rfl) ?_
    refine q_aload_n rfl rfl ?_
    have h_84 := ir_41_5 hI
    have h_85 := ir_41_4 hI
    have h_86 := ir_41_6 hI
    have h_87 := rt_ok hRt (by omega)
    have hro_hRt := rt_ok hRt (by omega)
    refine v_gi (z := 5) (v := (-1)) rfl rfl rfl (by decide) rfl rfl hro_hRt.2.1 ?_
    refine q_iconst rfl ?_
    refine v_ic_ne_f (t := 12) rfl (by decide) (by decide) ?_
    refine q_iconst rfl ?_
    refine q_goto (t := 13) rfl (by decide) ?_
    refine v_zret rfl rfl (by decide) ?_
    refine bk_inl ?_
    refine v_if_ne_t (t := 8) rfl (by decide) (by decide) ?_
    refine q_aload_n rfl rfl ?_
    have h_88 : -2147483648 ≤ (H (nx F e1 p0)) ∧ (H (nx F e1 p0)) ≤ 2147483647 := by rw [← hH (nx F e1 p0)]; exact ir_43 hI (nx F e1 p0)
    have h_89 := hU (nx F e1 p0) (by omega) (by omega)
    have h_90 := hb_or (b := H) (e := e1) (r := (nx F e1 p0))
    have h_91 := hb_bd (b := H) (e := e1) (r := (nx F e1 p0)) (lo := -2147483648) (hi := 2147483647) h_88 (by decide)
    refine v_cv rfl rfl rfl rfl (by decide) ⟨⟨rfl, rfl⟩, by decide, rfl⟩ (Nat.le_of_ble_eq_true rfl) (Nat.le_of_ble_eq_true rfl) (f_154 (e1 := e1) (a9 := p0) (B := H) (r8 := (nx F e1 p0)) (r := (hb H e1 (nx F e1 p0))) hI ((hr_e1)) (((hro_hRt.2.2.1).trans ((hg_p0)))) (fun j => hH j) ((nx_tr hU (by first | (clear ha2 hq0 hq1 hq2 hq4 hq5 hq8 h_1 h_2 h_3 h_4 h_5 h_6 h_7 h_8 h_9 h_10 h_11 h_46 h_65 h_66 h_76 h_77 h_78 h_79 h_80 h_81 h_82 h_83 h_84 h_85 h_86 h_87 hq6 hq7 h_12 h_21 h_37; omega) | omega) (by first | (clear ha2 hq0 hq1 hq2 hq3 hq4 hq8 h_1 h_2 h_3 h_4 h_5 h_6 h_7 h_8 h_9 h_10 h_11 h_46 h_65 h_66 h_74 h_76 h_77 h_78 h_79 h_80 h_81 h_82 h_83 h_84 h_85 h_86 h_87 hq6 hq7 h_12 h_21 h_37; omega) | omega)).trans (rfl)) rfl (fun c_92 hI_93 hF_94 h_95 => ?_))
    refine bk_inl ?_
    refine v_bip rfl (by decide) ?_
    refine v_ic_ne_t (t := 45) rfl (by decide) ⟨by first | (clear ha2 hq0 hq1 hq2 hq3 hq8 h_3 h_4 h_5 h_6 h_7 h_8 h_9 h_11 h_65 h_66 h_74 h_76 h_77 h_78 h_79 h_80 h_81 h_82 h_83 h_84 h_85 h_86 h_87; omega) | omega, ⟨h_91.1, h_91.2⟩, by decide, by decide⟩ ?_
    refine q_aload_n rfl rfl ?_
    have kn_96 : Hid (c_92 41 3 = e1) := (hF_94 41 3 (fun h => absurd h.2 (ni rfl))).trans (hr_e1)
    refine v_cv rfl rfl rfl rfl (by decide) ⟨⟨rfl, rfl⟩, by decide, rfl⟩ (Nat.le_of_ble_eq_true rfl) (Nat.le_of_ble_eq_true rfl) (f_154 (e1 := e1) (a9 := (nx F e1 p0)) (B := H) (r8 := (nx F e1 p0)) (r := (hb H e1 (nx F e1 p0))) hI_93 ((hid kn_96)) ((h_95)) (fun j => (hF_94 43 j (fun h => absurd h.1 (nn rfl))).trans (hH j)) ((nx_tr hU (by first | (clear ha2 hq0 hq1 hq2 hq4 hq5 hq8 h_1 h_2 h_3 h_4 h_5 h_6 h_7 h_8 h_9 h_11 h_46 h_65 h_66 h_76 h_77 h_78 h_79 h_80 h_81 h_82 h_83 h_84 h_85 h_86 h_87 h_88 h_89 h_91 hq6 hq7 h_12 h_21 h_37 h_90; omega) | omega) (by first | (clear ha2 hq0 hq1 hq2 hq3 hq4 hq8 h_1 h_2 h_3 h_4 h_5 h_6 h_7 h_8 h_9 h_10 h_11 h_46 h_65 h_66 h_74 h_76 h_77 h_78 h_79 h_80 h_81 h_82 h_83 h_84 h_85 h_86 h_87 h_88 h_89 h_91 hq6 hq7 h_12 h_21 h_37 h_90; omega) | omega)).trans ((nx_z (by omega)))) rfl (fun c_97 hI_98 hF_99 h_100 => ?_))
    refine bk_inl ?_
    refine q_call rfl rfl rfl rfl (f_156 (a0 := (hb H e1 (nx F e1 p0))) hI_98 (show (-2147483648) ≤ (hb H e1 (nx F e1 p0)) ∧ (hb H e1 (nx F e1 p0)) ≤ 2147483647 from h_91) (fun y_101 hy_101 h_102 => ?_))
    refine bk_inl ?_
    refine v_if_eq_t (t := 71) rfl (by decide) (by first | (clear ha2 hq0 hq1 hq2 hq3 hq8 h_3 h_4 h_5 h_6 h_7 h_8 h_9 h_11 h_65 h_66 h_74 h_76 h_77 h_78 h_79 h_80 h_81 h_82 h_83 h_84 h_85 h_86 h_87; omega) | omega) ?_
    refine q_aload_n rfl rfl ?_
    have kn_103 : Hid (c_97 41 3 = e1) := (hF_99 41 3 (fun h => absurd h.2 (ni rfl))).trans (hid kn_96)
    have h_104 := wv_bd (b := F) (r := (nx F e1 p0)) (l := (ln F e1 (nx F e1 p0))) (fun j h1 h2 => ⟨(ln_in (e := e1) (a := (nx F e1 p0)) h1 h2).1, (ln_in (e := e1) (a := (nx F e1 p0)) h1 h2).2.1⟩)
    have h_105 := wr1 (b := F) (r := (nx F e1 p0)) (l := (ln F e1 (nx F e1 p0))) (by omega) (fun j h1 h2 => ⟨(ln_in (e := e1) (a := (nx F e1 p0)) h1 h2).1, (ln_in (e := e1) (a := (nx F e1 p0)) h1 h2).2.1⟩)
    have h_106 := wn1 (b := F) (r := (nx F e1 p0)) (l := (ln F e1 (nx F e1 p0))) (by omega) (fun j h1 h2 => ⟨(ln_in (e := e1) (a := (nx F e1 p0)) h1 h2).1, (ln_in (e := e1) (a := (nx F e1 p0)) h1 h2).2.1⟩)
    have h_107 : (wv F (nx F e1 p0) (ln F e1 (nx F e1 p0))) = 12748404 → (ln F e1 (nx F e1 p0)) - (nx F e1 p0) = 5 := wl_least (by omega) (fun j h1 h2 => ⟨(ln_in (e := e1) (a := (nx F e1 p0)) h1 h2).1, (ln_in (e := e1) (a := (nx F e1 p0)) h1 h2).2.1⟩)
    have h_108 : (wv F (nx F e1 p0) (ln F e1 (nx F e1 p0))) = 441972 → (ln F e1 (nx F e1 p0)) - (nx F e1 p0) = 4 := wl_most (by omega) (fun j h1 h2 => ⟨(ln_in (e := e1) (a := (nx F e1 p0)) h1 h2).1, (ln_in (e := e1) (a := (nx F e1 p0)) h1 h2).2.1⟩)
    refine v_cv rfl rfl rfl rfl (by decide) ⟨⟨rfl, rfl⟩, by decide, rfl⟩ (Nat.le_of_ble_eq_true rfl) (Nat.le_of_ble_eq_true rfl) (f_157 (e1 := e1) (a9 := (nx F e1 p0)) (B := H) (r8 := (nx F e1 p0)) (L8 := (ln F e1 (nx F e1 p0))) (W8 := (wv F (nx F e1 p0) (ln F e1 (nx F e1 p0)))) hI_98 ((hid kn_103)) ((h_100)) (fun j => ((hF_99 43 j (fun h => absurd h.1 (nn rfl))).trans (hF_94 43 j (fun h => absurd h.1 (nn rfl)))).trans (hH j)) ((nx_tr hU (by first | (clear ha2 hq0 hq1 hq2 hq4 hq5 hq8 h_1 h_2 h_3 h_4 h_5 h_6 h_7 h_8 h_9 h_11 h_46 h_65 h_66 h_76 h_77 h_78 h_79 h_80 h_81 h_82 h_83 h_84 h_85 h_86 h_87 h_88 h_89 h_91 hq6 hq7 h_12 h_21 h_37 h_90 h_102; omega) | omega) (by first | (clear ha2 hq0 hq1 hq2 hq3 hq4 hq8 h_1 h_2 h_3 h_4 h_5 h_6 h_7 h_8 h_9 h_10 h_11 h_46 h_65 h_66 h_74 h_76 h_77 h_78 h_79 h_80 h_81 h_82 h_83 h_84 h_85 h_86 h_87 h_88 h_89 h_91 hq6 hq7 h_12 h_21 h_37 h_90 h_102; omega) | omega)).trans ((nx_z (by omega)))) ((ln_tr hU (by first | (clear ha2 hq0 hq1 hq2 hq4 hq5 hq8 h_1 h_2 h_3 h_4 h_5 h_6 h_7 h_8 h_9 h_11 h_46 h_65 h_66 h_76 h_77 h_78 h_79 h_80 h_81 h_82 h_83 h_84 h_85 h_86 h_87 h_88 h_89 h_91 hq6 hq7 h_12 h_21 h_37 h_90 h_102; omega) | omega) (by first | (clear ha2 hq0 hq1 hq2 hq3 hq4 hq8 h_1 h_2 h_3 h_4 h_5 h_6 h_7 h_8 h_9 h_10 h_11 h_46 h_65 h_66 h_74 h_76 h_77 h_78 h_79 h_80 h_81 h_82 h_83 h_84 h_85 h_86 h_87 h_88 h_89 h_91 hq6 hq7 h_12 h_21 h_37 h_90 h_102; omega) | omega)).trans (rfl)) ((wv_tr hU (by first | (clear ha2 hq0 hq1 hq2 hq4 hq5 hq8 h_1 h_2 h_3 h_4 h_5 h_6 h_7 h_8 h_9 h_11 h_46 h_65 h_66 h_76 h_77 h_78 h_79 h_80 h_81 h_82 h_83 h_84 h_85 h_86 h_87 h_88 h_89 h_91 h_104 hq6 hq7 h_12 h_21 h_37 h_90 h_102 h_105 h_106 h_107 h_108; omega) | omega) (by first | (clear ha2 hq0 hq1 hq2 hq3 hq4 hq8 h_1 h_2 h_3 h_4 h_5 h_6 h_7 h_8 h_9 h_10 h_11 h_65 h_66 h_74 h_76 h_77 h_78 h_79 h_80 h_81 h_82 h_83 h_84 h_85 h_86 h_87 h_88 h_89 h_91 h_104 hq6 hq7 h_12 h_21 h_37 h_90 h_102 h_105 h_106 h_107 h_108; omega) | omega) (fun j h1 h2 => ⟨(ln_in (e := e1) (a := (nx F e1 p0)) h1 h2).1, (ln_in (e := e1) (a := (nx F e1 p0)) h1 h2).2.1⟩)).trans (rfl)) (fun c_109 hI_110 hF_111 hz_112 => by exfalso; omega))
  · refine v_ic_ge_f (t := 32) rfl (by decide) ⟨(Int.le_trans (by decide) (rg_eq hg_n0 h_6).1), (Int.not_le.mp h_74), by decide⟩ ?_
    refine q_aload_n rfl rfl ?_
    refine v_gr (t := (A + 9)) rfl rfl (ck_p7 hA) (a68 hA rfl) rfl ?_
    refine q_aload_n rfl rfl ?_
    refine v_gi (z := 5) (v := n0) rfl rfl (ck_p7 hA) (a68 hA rfl) rfl rfl (hid kn_73) ?_
    refine q_iload_n rfl rfl ?_
    refine v_is rfl (ck_p9 hA) (a68 hA rfl) (by decide) (by omega) ?_
    refine q_aload_n rfl rfl ?_
    refine q_dup rfl rfl ?_
    refine v_gi (z := 5) (v := n0) rfl rfl (ck_p7 hA) (a68 hA rfl) rfl rfl ((up_c (pp rfl)).trans (hid kn_73)) ?_
    refine q_iconst rfl ?_
    refine v_iadd (v := n0 + 1) rfl rfl ?_
    refine v_pi (z := 5) rfl rfl (ck_p7 hA) (a68 hA rfl) rfl rfl rfl (by decide) ?_
    refine q_vret rfl rfl ?_
    refine bk_inl ?_
    refine q_vret rfl rfl ?_
    have hI_113 := iw_lg (j := n0) (v := (wd1_0 F (nx F e1 p0) (ln F e1 (nx F e1 p0))) + 1000) hI_63 (lgp (k := 9) hA (by decide)) ⟨by omega, by omega⟩ (by omega)
    have hI_114 := iw_p7_5 (v := n0 + 1) hI_113 hA ⟨by first | exact rgp_l (rg_eq hg_n0 h_6).1 (by decide) | omega, by first | (clear ha2 hq0 hq1 hq2 hq3 hq4 hq5 hq8 h_1 h_2 h_3 h_4 h_5 h_6 h_7 h_8 h_9 h_10 h_11 h_46 h_65 h_66 hq6 hq7 h_12 h_21 h_37; omega) | omega⟩
    intro hE_115
    have hW : Wd P Q P P (up (up c_62 (A + 9) n0 ((wd1_0 F (nx F e1 p0) (ln F e1 (nx F e1 p0))) + 1000)) (A + 7) 5 (n0 + 1)) = Wd P Q P P m9 := (Prod.mk.inj (Prod.mk.inj hE_115).2).1
    have h_116 := ir_1_4 hJ9
    have h_117 : m9 1 4 = 0 := wd_fv (z := 4) 4 rfl hW rfl rfl rfl rfl (by decide) ((up_c (pn hA rfl rfl)).trans ((up_c (pn hA rfl rfl)).trans (hz_68))) ⟨by decide, by decide⟩ ⟨(Int.le_trans (by decide) h_116.1), (Int.le_trans h_116.2 (by decide))⟩
    have h_118 := ir_1_2 hJ9
    have h_119 : m9 1 2 = (ln F e1 (nx F e1 p0)) := wd_fv (z := 2) 2 rfl hW rfl rfl rfl rfl (by decide) ((up_c (pn hA rfl rfl)).trans ((up_c (pn hA rfl rfl)).trans (hz_67))) ⟨(Int.le_trans (by decide) (rg_be h_46 ((rg_be h_10 ((rg_eq hg_p0 h_5).1) ((rg_eq hg_e1 h_1).2)).1) ((rg_eq hg_e1 h_1).2)).1), (Int.le_trans (rg_be h_46 ((rg_be h_10 ((rg_eq hg_p0 h_5).1) ((rg_eq hg_e1 h_1).2)).1) ((rg_eq hg_e1 h_1).2)).2 (by decide))⟩ ⟨(Int.le_trans (by decide) h_118.1), (Int.le_trans h_118.2 (by decide))⟩
    have h_120 := ir_1_5 hJ9
    have h_121 : m9 1 5 = g0 := wd_fv (z := 5) 5 rfl hW rfl rfl rfl rfl (by decide) ((up_c (pn hA rfl rfl)).trans ((up_c (pn hA rfl rfl)).trans (hz_69))) ⟨(Int.le_trans (by decide) (rg_eq hg_g0 h_4).1), (Int.le_trans (rg_eq hg_g0 h_4).2 (by decide))⟩ ⟨(Int.le_trans (by decide) h_120.1), (Int.le_trans h_120.2 (by decide))⟩
    have h_122 := ir_p7_5 hJ9 hA
    have h_123 : m9 (A + 7) 5 = n0 + 1 := wd_fv (z := 5) 5 rfl hW (ck_p7 hA) (ck_p7 hA) rfl rfl (by omega) (up_e rfl) ⟨by first | exact rgp_l (rg_eq hg_n0 h_6).1 (by decide) | omega, by first | exact rgp_h (rg_eq hg_n0 h_6).2 (by decide) | omega⟩ ⟨(Int.le_trans (by decide) h_122.1), (Int.le_trans h_122.2 (by decide))⟩
    refine q_aload_n rfl rfl ?_
    refine v_cv rfl rfl rfl rfl (by decide) ⟨⟨rfl, rfl⟩, by decide, rfl⟩ (Nat.le_of_ble_eq_true rfl) (Nat.le_of_ble_eq_true rfl) ?_
    refine q_aload_n rfl rfl ?_
    have h_124 := ir_41_5 hI
    have h_125 := ir_41_4 hI
    have h_126 := ir_41_6 hI
    have h_127 := rt_ok hRt (by omega)
    have hro_hRt := rt_ok hRt (by omega)
    refine v_gi (z := 5) (v := (-1)) rfl rfl rfl (by decide) rfl rfl hro_hRt.2.1 ?_
    refine q_iconst rfl ?_
    refine v_ic_ne_f (t := 12) rfl (by decide) (by decide) ?_
    refine q_iconst rfl ?_
    refine q_goto (t := 13) rfl (by decide) ?_
    refine v_zret rfl rfl (by decide) ?_
    refine bk_inl ?_
    refine v_if_ne_t (t := 8) rfl (by decide) (by decide) ?_
    refine q_aload_n rfl rfl ?_
    have h_128 : -2147483648 ≤ (H (nx F e1 p0)) ∧ (H (nx F e1 p0)) ≤ 2147483647 := by rw [← hH (nx F e1 p0)]; exact ir_43 hI (nx F e1 p0)
    have h_129 := hU (nx F e1 p0) (by omega) (by omega)
    have h_130 := hb_or (b := H) (e := e1) (r := (nx F e1 p0))
    have h_131 := hb_bd (b := H) (e := e1) (r := (nx F e1 p0)) (lo := -2147483648) (hi := 2147483647) h_128 (by decide)
    refine v_cv rfl rfl rfl rfl (by decide) ⟨⟨rfl, rfl⟩, by decide, rfl⟩ (Nat.le_of_ble_eq_true rfl) (Nat.le_of_ble_eq_true rfl) (f_154 (e1 := e1) (a9 := p0) (B := H) (r8 := (nx F e1 p0)) (r := (hb H e1 (nx F e1 p0))) hI ((hr_e1)) (((hro_hRt.2.2.1).trans ((hg_p0)))) (fun j => hH j) ((nx_tr hU (by first | (clear ha2 hq0 hq1 hq2 hq3 hq4 hq5 hq8 h_1 h_2 h_3 h_4 h_6 h_7 h_8 h_9 h_10 h_11 h_46 h_65 h_66 h_116 h_117 h_118 h_119 h_120 h_121 h_122 h_123 h_124 h_125 h_126 h_127 hq6 hq7 h_12 h_21 h_37; omega) | omega) (by first | (clear ha2 hq0 hq1 hq2 hq3 hq4 hq8 h_1 h_2 h_3 h_4 h_5 h_6 h_7 h_8 h_9 h_10 h_11 h_46 h_65 h_66 h_116 h_117 h_118 h_119 h_120 h_121 h_122 h_123 h_124 h_125 h_126 h_127 hq6 hq7 h_12 h_21 h_37; omega) | omega)).trans (rfl)) rfl (fun c_132 hI_133 hF_134 h_135 => ?_))
    refine bk_inl ?_
    refine v_bip rfl (by decide) ?_
    refine v_ic_ne_t (t := 45) rfl (by decide) ⟨by first | (clear ha2 hq0 hq1 hq2 hq3 hq8 h_3 h_4 h_5 h_6 h_7 h_8 h_9 h_11 h_65 h_66 h_116 h_117 h_118 h_119 h_120 h_121 h_122 h_123 h_124 h_125 h_126 h_127; omega) | omega, ⟨h_131.1, h_131.2⟩, by decide, by decide⟩ ?_
    refine q_aload_n rfl rfl ?_
    have kn_136 : Hid (c_132 41 3 = e1) := (hF_134 41 3 (fun h => absurd h.2 (ni rfl))).trans (hr_e1)
    refine v_cv rfl rfl rfl rfl (by decide) ⟨⟨rfl, rfl⟩, by decide, rfl⟩ (Nat.le_of_ble_eq_true rfl) (Nat.le_of_ble_eq_true rfl) (f_154 (e1 := e1) (a9 := (nx F e1 p0)) (B := H) (r8 := (nx F e1 p0)) (r := (hb H e1 (nx F e1 p0))) hI_133 ((hid kn_136)) ((h_135)) (fun j => (hF_134 43 j (fun h => absurd h.1 (nn rfl))).trans (hH j)) ((nx_tr hU (by first | (clear ha2 hq0 hq1 hq2 hq3 hq4 hq5 hq8 h_1 h_2 h_3 h_4 h_6 h_7 h_8 h_9 h_11 h_46 h_65 h_66 h_116 h_117 h_118 h_119 h_120 h_121 h_122 h_123 h_124 h_125 h_126 h_127 h_128 h_129 h_131 hq6 hq7 h_12 h_21 h_37 h_130; omega) | omega) (by first | (clear ha2 hq0 hq1 hq2 hq3 hq4 hq8 h_1 h_2 h_3 h_4 h_5 h_6 h_7 h_8 h_9 h_10 h_11 h_46 h_65 h_66 h_116 h_117 h_118 h_119 h_120 h_121 h_122 h_123 h_124 h_125 h_126 h_127 h_128 h_129 h_131 hq6 hq7 h_12 h_21 h_37 h_130; omega) | omega)).trans ((nx_z (by omega)))) rfl (fun c_137 hI_138 hF_139 h_140 => ?_))
    refine bk_inl ?_
    refine q_call rfl rfl rfl rfl (f_156 (a0 := (hb H e1 (nx F e1 p0))) hI_138 (show (-2147483648) ≤ (hb H e1 (nx F e1 p0)) ∧ (hb H e1 (nx F e1 p0)) ≤ 2147483647 from h_131) (fun y_141 hy_141 h_142 => ?_))
    refine bk_inl ?_
    refine v_if_eq_t (t := 71) rfl (by decide) (by first | (clear ha2 hq0 hq1 hq2 hq3 hq8 h_3 h_4 h_5 h_6 h_7 h_8 h_9 h_11 h_65 h_66 h_116 h_117 h_118 h_119 h_120 h_121 h_122 h_123 h_124 h_125 h_126 h_127; omega) | omega) ?_
    refine q_aload_n rfl rfl ?_
    have kn_143 : Hid (c_137 41 3 = e1) := (hF_139 41 3 (fun h => absurd h.2 (ni rfl))).trans (hid kn_136)
    have h_144 := wv_bd (b := F) (r := (nx F e1 p0)) (l := (ln F e1 (nx F e1 p0))) (fun j h1 h2 => ⟨(ln_in (e := e1) (a := (nx F e1 p0)) h1 h2).1, (ln_in (e := e1) (a := (nx F e1 p0)) h1 h2).2.1⟩)
    have h_145 := wr1 (b := F) (r := (nx F e1 p0)) (l := (ln F e1 (nx F e1 p0))) (by omega) (fun j h1 h2 => ⟨(ln_in (e := e1) (a := (nx F e1 p0)) h1 h2).1, (ln_in (e := e1) (a := (nx F e1 p0)) h1 h2).2.1⟩)
    have h_146 := wn1 (b := F) (r := (nx F e1 p0)) (l := (ln F e1 (nx F e1 p0))) (by omega) (fun j h1 h2 => ⟨(ln_in (e := e1) (a := (nx F e1 p0)) h1 h2).1, (ln_in (e := e1) (a := (nx F e1 p0)) h1 h2).2.1⟩)
    have h_147 : (wv F (nx F e1 p0) (ln F e1 (nx F e1 p0))) = 12748404 → (ln F e1 (nx F e1 p0)) - (nx F e1 p0) = 5 := wl_least (by omega) (fun j h1 h2 => ⟨(ln_in (e := e1) (a := (nx F e1 p0)) h1 h2).1, (ln_in (e := e1) (a := (nx F e1 p0)) h1 h2).2.1⟩)
    have h_148 : (wv F (nx F e1 p0) (ln F e1 (nx F e1 p0))) = 441972 → (ln F e1 (nx F e1 p0)) - (nx F e1 p0) = 4 := wl_most (by omega) (fun j h1 h2 => ⟨(ln_in (e := e1) (a := (nx F e1 p0)) h1 h2).1, (ln_in (e := e1) (a := (nx F e1 p0)) h1 h2).2.1⟩)
    refine v_cv rfl rfl rfl rfl (by decide) ⟨⟨rfl, rfl⟩, by decide, rfl⟩ (Nat.le_of_ble_eq_true rfl) (Nat.le_of_ble_eq_true rfl) (f_157 (e1 := e1) (a9 := (nx F e1 p0)) (B := H) (r8 := (nx F e1 p0)) (L8 := (ln F e1 (nx F e1 p0))) (W8 := (wv F (nx F e1 p0) (ln F e1 (nx F e1 p0)))) hI_138 ((hid kn_143)) ((h_140)) (fun j => ((hF_139 43 j (fun h => absurd h.1 (nn rfl))).trans (hF_134 43 j (fun h => absurd h.1 (nn rfl)))).trans (hH j)) ((nx_tr hU (by first | (clear ha2 hq0 hq1 hq2 hq3 hq4 hq5 hq8 h_1 h_2 h_3 h_4 h_6 h_7 h_8 h_9 h_11 h_46 h_65 h_66 h_116 h_117 h_118 h_119 h_120 h_121 h_122 h_123 h_124 h_125 h_126 h_127 h_128 h_129 h_131 hq6 hq7 h_12 h_21 h_37 h_130 h_142; omega) | omega) (by first | (clear ha2 hq0 hq1 hq2 hq3 hq4 hq8 h_1 h_2 h_3 h_4 h_5 h_6 h_7 h_8 h_9 h_10 h_11 h_46 h_65 h_66 h_116 h_117 h_118 h_119 h_120 h_121 h_122 h_123 h_124 h_125 h_126 h_127 h_128 h_129 h_131 hq6 hq7 h_12 h_21 h_37 h_130 h_142; omega) | omega)).trans ((nx_z (by omega)))) ((ln_tr hU (by first | (clear ha2 hq0 hq1 hq2 hq3 hq4 hq5 hq8 h_1 h_2 h_3 h_4 h_6 h_7 h_8 h_9 h_11 h_46 h_65 h_66 h_116 h_117 h_118 h_119 h_120 h_121 h_122 h_123 h_124 h_125 h_126 h_127 h_128 h_129 h_131 hq6 hq7 h_12 h_21 h_37 h_130 h_142; omega) | omega) (by first | (clear ha2 hq0 hq1 hq2 hq3 hq4 hq8 h_1 h_2 h_3 h_4 h_5 h_6 h_7 h_8 h_9 h_10 h_11 h_46 h_65 h_66 h_116 h_117 h_118 h_119 h_120 h_121 h_122 h_123 h_124 h_125 h_126 h_127 h_128 h_129 h_131 hq6 hq7 h_12 h_21 h_37 h_130 h_142; omega) | omega)).trans (rfl)) ((wv_tr hU (by first | (clear ha2 hq0 hq1 hq2 hq3 hq4 hq5 hq8 h_1 h_2 h_3 h_4 h_6 h_7 h_8 h_9 h_11 h_46 h_65 h_66 h_116 h_117 h_118 h_119 h_120 h_121 h_122 h_123 h_124 h_125 h_126 h_127 h_128 h_129 h_131 h_144 hq6 hq7 h_12 h_21 h_37 h_130 h_142 h_145 h_146 h_147 h_148; omega) | omega) (by first | (clear ha2 hq0 hq1 hq2 hq3 hq4 hq8 h_1 h_2 h_3 h_4 h_5 h_6 h_7 h_8 h_9 h_10 h_11 h_65 h_66 h_116 h_117 h_118 h_119 h_120 h_121 h_122 h_123 h_124 h_125 h_126 h_127 h_128 h_129 h_131 h_144 hq6 hq7 h_12 h_21 h_37 h_130 h_142 h_145 h_146 h_147 h_148; omega) | omega) (fun j h1 h2 => ⟨(ln_in (e := e1) (a := (nx F e1 p0)) h1 h2).1, (ln_in (e := e1) (a := (nx F e1 p0)) h1 h2).2.1⟩)).trans (rfl)) (fun c_149 hI_150 hF_151 hz_152 => ?_))
    refine bk_inl ?_
    refine q_ldc_w_s rfl rfl rfl (by decide) ?_
    refine q_call rfl rfl rfl rfl (s_158_20 ?_)
    refine bk_inl ?_
    refine v_ic_ne_t (t := 94) rfl (by decide) ⟨by first | (clear ha2 hq0 hq1 hq2 hq3 hq4 hq5 h_1 h_2 h_3 h_4 h_5 h_6 h_7 h_8 h_9 h_11 h_65 h_116 h_117 h_118 h_120 h_121 h_122 h_123 h_124 h_125 h_126 h_127 h_128 h_129 h_131 h_142; omega) | omega, ⟨(Int.le_trans (by decide) h_144.1), (Int.le_trans h_144.2 (by decide))⟩, by decide, by decide⟩ ?_
    refine q_aload_n rfl rfl ?_
    have kn_153 : Hid (c_149 41 3 = e1) := (hF_151 41 3 (fun h => absurd h.2 (ni rfl))).trans (hid kn_143)
    refine v_cv rfl rfl rfl rfl (by decide) ⟨⟨rfl, rfl⟩, by decide, rfl⟩ (Nat.le_of_ble_eq_true rfl) (Nat.le_of_ble_eq_true rfl) (f_157 (e1 := e1) (a9 := (nx F e1 p0)) (B := H) (r8 := (nx F e1 p0)) (L8 := (ln F e1 (nx F e1 p0))) (W8 := (wv F (nx F e1 p0) (ln F e1 (nx F e1 p0)))) hI_150 ((hid kn_153)) ((hz_152)) (fun j => ((hF_151 43 j (fun h => absurd h.1 (nn rfl))).trans ((hF_139 43 j (fun h => absurd h.1 (nn rfl))).trans (hF_134 43 j (fun h => absurd h.1 (nn rfl))))).trans (hH j)) ((nx_tr hU (by first | (clear ha2 hq0 hq1 hq2 hq3 hq4 hq5 hq8 h_1 h_2 h_3 h_4 h_6 h_7 h_8 h_9 h_11 h_46 h_65 h_66 h_116 h_117 h_118 h_119 h_120 h_121 h_122 h_123 h_124 h_125 h_126 h_127 h_128 h_129 h_131 h_144 hq6 hq7 h_12 h_21 h_37 h_130 h_142 h_145 h_146 h_147 h_148; omega) | omega) (by first | (clear ha2 hq0 hq1 hq2 hq3 hq4 hq8 h_1 h_2 h_3 h_4 h_5 h_6 h_7 h_8 h_9 h_10 h_11 h_46 h_65 h_66 h_116 h_117 h_118 h_119 h_120 h_121 h_122 h_123 h_124 h_125 h_126 h_127 h_128 h_129 h_131 h_144 hq6 hq7 h_12 h_21 h_37 h_130 h_142 h_145 h_146 h_147 h_148; omega) | omega)).trans ((nx_z (by omega)))) ((ln_tr hU (by first | (clear ha2 hq0 hq1 hq2 hq3 hq4 hq5 hq8 h_1 h_2 h_3 h_4 h_6 h_7 h_8 h_9 h_11 h_46 h_65 h_66 h_116 h_117 h_118 h_119 h_120 h_121 h_122 h_123 h_124 h_125 h_126 h_127 h_128 h_129 h_131 h_144 hq6 hq7 h_12 h_21 h_37 h_130 h_142 h_145 h_146 h_147 h_148; omega) | omega) (by first | (clear ha2 hq0 hq1 hq2 hq3 hq4 hq8 h_1 h_2 h_3 h_4 h_5 h_6 h_7 h_8 h_9 h_10 h_11 h_46 h_65 h_66 h_116 h_117 h_118 h_119 h_120 h_121 h_122 h_123 h_124 h_125 h_126 h_127 h_128 h_129 h_131 h_144 hq6 hq7 h_12 h_21 h_37 h_130 h_142 h_145 h_146 h_147 h_148; omega) | omega)).trans (rfl)) ((wv_tr hU (by first | (clear ha2 hq0 hq1 hq2 hq3 hq4 hq5 hq8 h_1 h_2 h_3 h_4 h_6 h_7 h_8 h_9 h_11 h_46 h_65 h_66 h_116 h_117 h_118 h_119 h_120 h_121 h_122 h_123 h_124 h_125 h_126 h_127 h_128 h_129 h_131 h_144 hq6 hq7 h_12 h_21 h_37 h_130 h_142 h_145 h_146 h_147 h_148; omega) | omega) (by first | (clear ha2 hq0 hq1 hq2 hq3 hq4 hq8 h_1 h_2 h_3 h_4 h_5 h_6 h_7 h_8 h_9 h_10 h_11 h_65 h_66 h_116 h_117 h_118 h_119 h_120 h_121 h_122 h_123 h_124 h_125 h_126 h_127 h_128 h_129 h_131 h_144 hq6 hq7 h_12 h_21 h_37 h_130 h_142 h_145 h_146 h_147 h_148; omega) | omega) (fun j h1 h2 => ⟨(ln_in (e := e1) (a := (nx F e1 p0)) h1 h2).1, (ln_in (e := e1) (a := (nx F e1 p0)) h1 h2).2.1⟩)).trans (rfl)) (fun c_154 hI_155 hF_156 hz_157 => ?_))
    refine bk_inl ?_
    refine q_ldc_w_s rfl rfl rfl (by decide) ?_
    refine q_call rfl rfl rfl rfl (s_158_21 ?_)
    refine bk_inl ?_
    refine v_ic_ne_t (t := 117) rfl (by decide) ⟨by first | (clear ha2 hq0 hq1 hq2 hq3 hq4 hq5 h_1 h_2 h_3 h_4 h_5 h_6 h_7 h_8 h_9 h_11 h_65 h_116 h_117 h_118 h_120 h_121 h_122 h_123 h_124 h_125 h_126 h_127 h_128 h_129 h_131 h_142; omega) | omega, ⟨(Int.le_trans (by decide) h_144.1), (Int.le_trans h_144.2 (by decide))⟩, by decide, by decide⟩ ?_
    refine q_aload_n rfl rfl ?_
    refine v_cv rfl rfl rfl rfl (by decide) ⟨⟨rfl, rfl⟩, by decide, rfl⟩ (Nat.le_of_ble_eq_true rfl) (Nat.le_of_ble_eq_true rfl) ?_
    refine q_aload_n rfl rfl ?_
    have kn_158 : Hid (c_154 41 3 = e1) := (hF_156 41 3 (fun h => absurd h.2 (ni rfl))).trans (hid kn_153)
    refine v_cv rfl rfl rfl rfl (by decide) ⟨⟨rfl, rfl⟩, by decide, rfl⟩ (Nat.le_of_ble_eq_true rfl) (Nat.le_of_ble_eq_true rfl) (f_157 (e1 := e1) (a9 := (nx F e1 p0)) (B := H) (r8 := (nx F e1 p0)) (L8 := (ln F e1 (nx F e1 p0))) (W8 := (wv F (nx F e1 p0) (ln F e1 (nx F e1 p0)))) hI_155 ((hid kn_158)) ((hz_157)) (fun j => ((hF_156 43 j (fun h => absurd h.1 (nn rfl))).trans ((hF_151 43 j (fun h => absurd h.1 (nn rfl))).trans ((hF_139 43 j (fun h => absurd h.1 (nn rfl))).trans (hF_134 43 j (fun h => absurd h.1 (nn rfl)))))).trans (hH j)) ((nx_tr hU (by first | (clear ha2 hq0 hq1 hq2 hq3 hq4 hq5 hq8 h_1 h_2 h_3 h_4 h_6 h_7 h_8 h_9 h_11 h_46 h_65 h_66 h_116 h_117 h_118 h_119 h_120 h_121 h_122 h_123 h_124 h_125 h_126 h_127 h_128 h_129 h_131 h_144 hq6 hq7 h_12 h_21 h_37 h_130 h_142 h_145 h_146 h_147 h_148; omega) | omega) (by first | (clear ha2 hq0 hq1 hq2 hq3 hq4 hq8 h_1 h_2 h_3 h_4 h_5 h_6 h_7 h_8 h_9 h_10 h_11 h_46 h_65 h_66 h_116 h_117 h_118 h_119 h_120 h_121 h_122 h_123 h_124 h_125 h_126 h_127 h_128 h_129 h_131 h_144 hq6 hq7 h_12 h_21 h_37 h_130 h_142 h_145 h_146 h_147 h_148; omega) | omega)).trans ((nx_z (by omega)))) ((ln_tr hU (by first | (clear ha2 hq0 hq1 hq2 hq3 hq4 hq5 hq8 h_1 h_2 h_3 h_4 h_6 h_7 h_8 h_9 h_11 h_46 h_65 h_66 h_116 h_117 h_118 h_119 h_120 h_121 h_122 h_123 h_124 h_125 h_126 h_127 h_128 h_129 h_131 h_144 hq6 hq7 h_12 h_21 h_37 h_130 h_142 h_145 h_146 h_147 h_148; omega) | omega) (by first | (clear ha2 hq0 hq1 hq2 hq3 hq4 hq8 h_1 h_2 h_3 h_4 h_5 h_6 h_7 h_8 h_9 h_10 h_11 h_46 h_65 h_66 h_116 h_117 h_118 h_119 h_120 h_121 h_122 h_123 h_124 h_125 h_126 h_127 h_128 h_129 h_131 h_144 hq6 hq7 h_12 h_21 h_37 h_130 h_142 h_145 h_146 h_147 h_148; omega) | omega)).trans (rfl)) ((wv_tr hU (by first | (clear ha2 hq0 hq1 hq2 hq3 hq4 hq5 hq8 h_1 h_2 h_3 h_4 h_6 h_7 h_8 h_9 h_11 h_46 h_65 h_66 h_116 h_117 h_118 h_119 h_120 h_121 h_122 h_123 h_124 h_125 h_126 h_127 h_128 h_129 h_131 h_144 hq6 hq7 h_12 h_21 h_37 h_130 h_142 h_145 h_146 h_147 h_148; omega) | omega) (by first | (clear ha2 hq0 hq1 hq2 hq3 hq4 hq8 h_1 h_2 h_3 h_4 h_5 h_6 h_7 h_8 h_9 h_10 h_11 h_65 h_66 h_116 h_117 h_118 h_119 h_120 h_121 h_122 h_123 h_124 h_125 h_126 h_127 h_128 h_129 h_131 h_144 hq6 hq7 h_12 h_21 h_37 h_130 h_142 h_145 h_146 h_147 h_148; omega) | omega) (fun j h1 h2 => ⟨(ln_in (e := e1) (a := (nx F e1 p0)) h1 h2).1, (ln_in (e := e1) (a := (nx F e1 p0)) h1 h2).2.1⟩)).trans (rfl)) (fun c_159 hI_160 hF_161 hz_162 => ?_))
    refine bk_inl ?_
    refine q_istore_n rfl (by decide) ?_
    refine q_iload_n rfl rfl ?_
    refine q_ldc_s rfl rfl rfl (by decide) ?_
    refine q_call rfl rfl rfl rfl (s_158_22 ?_)
    refine bk_inl ?_
    by_cases h_163 : (wv F (nx F e1 p0) (ln F e1 (nx F e1 p0))) ≠ 206277
    · refine v_ic_ne_t (t := 18) rfl (by decide) ⟨h_163, ⟨(Int.le_trans (by decide) h_144.1), (Int.le_trans h_144.2 (by decide))⟩, by decide, by decide⟩ ?_
      refine q_iload_n rfl rfl ?_
      refine q_ldc_s rfl rfl rfl (by decide) ?_
      refine q_call rfl rfl rfl rfl (s_158_23 ?_)
      refine bk_inl ?_
      by_cases h_164 : (wv F (nx F e1 p0) (ln F e1 (nx F e1 p0))) ≠ 13604
      · refine v_ic_ne_t (t := 31) rfl (by decide) ⟨h_164, ⟨(Int.le_trans (by decide) h_144.1), (Int.le_trans h_144.2 (by decide))⟩, by decide, by decide⟩ ?_
        refine q_iload_n rfl rfl ?_
        refine q_ldc_w_s rfl rfl rfl (by decide) ?_
        refine q_call rfl rfl rfl rfl (s_158_24 ?_)
        refine bk_inl ?_
        by_cases h_165 : (wv F (nx F e1 p0) (ln F e1 (nx F e1 p0))) ≠ 116443749
        · refine v_ic_ne_t (t := 45) rfl (by decide) ⟨h_165, ⟨(Int.le_trans (by decide) h_144.1), (Int.le_trans h_144.2 (by decide))⟩, by decide, by decide⟩ ?_
          refine q_iload_n rfl rfl ?_
          refine q_ldc_w_s rfl rfl rfl (by decide) ?_
          refine q_call rfl rfl rfl rfl (s_158_25 ?_)
          refine bk_inl ?_
          by_cases h_166 : (wv F (nx F e1 p0) (ln F e1 (nx F e1 p0))) ≠ 284267
          · refine v_ic_ne_t (t := 59) rfl (by decide) ⟨h_166, ⟨(Int.le_trans (by decide) h_144.1), (Int.le_trans h_144.2 (by decide))⟩, by decide, by decide⟩ ?_
            refine q_iload_n rfl rfl ?_
            refine q_ldc_w_s rfl rfl rfl (by decide) ?_
            refine q_call rfl rfl rfl rfl (s_158_26 ?_)
            refine bk_inl ?_
            by_cases h_167 : (wv F (nx F e1 p0) (ln F e1 (nx F e1 p0))) ≠ 1420
            · refine v_ic_ne_t (t := 73) rfl (by decide) ⟨h_167, ⟨(Int.le_trans (by decide) h_144.1), (Int.le_trans h_144.2 (by decide))⟩, by decide, by decide⟩ ?_
              refine q_iload_n rfl rfl ?_
              refine q_ldc_w_s rfl rfl rfl (by decide) ?_
              refine q_call rfl rfl rfl rfl (s_158_27 ?_)
              refine bk_inl ?_
              by_cases h_168 : (wv F (nx F e1 p0) (ln F e1 (nx F e1 p0))) ≠ 1253
              · refine v_ic_ne_t (t := 87) rfl (by decide) ⟨h_168, ⟨(Int.le_trans (by decide) h_144.1), (Int.le_trans h_144.2 (by decide))⟩, by decide, by decide⟩ ?_
                refine q_iload_n rfl rfl ?_
                refine q_ldc_w_s rfl rfl rfl (by decide) ?_
                refine q_call rfl rfl rfl rfl (s_158_28 ?_)
                refine bk_inl ?_
                by_cases h_169 : (wv F (nx F e1 p0) (ln F e1 (nx F e1 p0))) ≠ 4153
                · refine v_ic_ne_t (t := 102) rfl (by decide) ⟨h_169, ⟨(Int.le_trans (by decide) h_144.1), (Int.le_trans h_144.2 (by decide))⟩, by decide, by decide⟩ ?_
                  refine q_iload_n rfl rfl ?_
                  refine q_ldc_s rfl rfl rfl (by decide) ?_
                  refine q_call rfl rfl rfl rfl (s_158_16 ?_)
                  refine bk_inl ?_
                  refine v_ic_ne_f (t := 116) rfl (by decide) (by first | (clear ha2 hq0 hq1 hq2 hq3 hq4 hq5 h_1 h_2 h_3 h_4 h_5 h_6 h_7 h_8 h_9 h_11 h_65 h_116 h_117 h_118 h_120 h_121 h_122 h_123 h_124 h_125 h_126 h_127 h_128 h_129 h_131 h_142; omega) | omega) ?_
                  refine v_bip rfl (by decide) ?_
                  refine q_goto (t := 117) rfl (by decide) ?_
                  refine q_iret rfl rfl ?_
                  refine bk_inl ?_
                  refine q_istore_n rfl (by decide) ?_
                  refine q_iload_n rfl rfl ?_
                  refine q_iconst rfl ?_
                  refine v_ic_ne_t (t := 136) rfl (by decide) (by decide) ?_
                  refine q_aload_n rfl rfl ?_
                  refine v_cv rfl rfl rfl rfl (by decide) ⟨⟨rfl, rfl⟩, by decide, rfl⟩ (Nat.le_of_ble_eq_true rfl) (Nat.le_of_ble_eq_true rfl) ?_
                  refine q_aload_n rfl rfl ?_
                  have kn_170 : Hid (c_132 41 5 = (-1)) := (hF_134 41 5 (fun h => absurd h.2 (ni rfl))).trans hro_hRt.2.1
                  have kn_171 : Hid (c_137 41 5 = (-1)) := (hF_139 41 5 (fun h => absurd h.2 (ni rfl))).trans (hid kn_170)
                  have kn_172 : Hid (c_149 41 5 = (-1)) := (hF_151 41 5 (fun h => absurd h.2 (ni rfl))).trans (hid kn_171)
                  have kn_173 : Hid (c_154 41 5 = (-1)) := (hF_156 41 5 (fun h => absurd h.2 (ni rfl))).trans (hid kn_172)
                  have kn_174 : Hid (c_159 41 5 = (-1)) := (hF_161 41 5 (fun h => absurd h.2 (ni rfl))).trans (hid kn_173)
                  refine v_gi (z := 5) (v := (-1)) rfl rfl rfl (by decide) rfl rfl (hid kn_174) ?_
                  refine q_iconst rfl ?_
                  refine v_ic_ne_f (t := 12) rfl (by decide) (by decide) ?_
                  refine q_iconst rfl ?_
                  refine q_goto (t := 13) rfl (by decide) ?_
                  refine v_zret rfl rfl (by decide) ?_
                  refine bk_inl ?_
                  refine v_if_ne_t (t := 144) rfl (by decide) (by decide) ?_
                  refine q_aload_n rfl rfl ?_
                  have kn_175 : Hid (c_159 41 3 = e1) := (hF_161 41 3 (fun h => absurd h.2 (ni rfl))).trans (hid kn_158)
                  refine v_cv rfl rfl rfl rfl (by decide) ⟨⟨rfl, rfl⟩, by decide, rfl⟩ (Nat.le_of_ble_eq_true rfl) (Nat.le_of_ble_eq_true rfl) (f_159 (e1 := e1) (a9 := (nx F e1 p0)) (B := H) (L8 := (ln F e1 (nx F e1 p0))) hI_160 ((hid kn_175)) ((hz_162)) (fun j => ((hF_161 43 j (fun h => absurd h.1 (nn rfl))).trans ((hF_156 43 j (fun h => absurd h.1 (nn rfl))).trans ((hF_151 43 j (fun h => absurd h.1 (nn rfl))).trans ((hF_139 43 j (fun h => absurd h.1 (nn rfl))).trans (hF_134 43 j (fun h => absurd h.1 (nn rfl))))))).trans (hH j)) ((ln_tr hU (by first | (clear ha2 hq0 hq1 hq2 hq3 hq4 hq5 hq8 h_1 h_2 h_3 h_4 h_6 h_7 h_8 h_9 h_11 h_46 h_65 h_66 h_116 h_117 h_118 h_119 h_120 h_121 h_122 h_123 h_124 h_125 h_126 h_127 h_128 h_129 h_131 h_144 hq6 hq7 h_12 h_21 h_37 h_130 h_142 h_145 h_146 h_147 h_148 h_163 h_164 h_165 h_166 h_167 h_168 h_169; omega) | omega) (by first | (clear ha2 hq0 hq1 hq2 hq3 hq4 hq8 h_1 h_2 h_3 h_4 h_5 h_6 h_7 h_8 h_9 h_10 h_11 h_46 h_65 h_66 h_116 h_117 h_118 h_119 h_120 h_121 h_122 h_123 h_124 h_125 h_126 h_127 h_128 h_129 h_131 h_144 hq6 hq7 h_12 h_21 h_37 h_130 h_142 h_145 h_146 h_147 h_148 h_163 h_164 h_165 h_166 h_167 h_168 h_169; omega) | omega)).trans (rfl)) (fun c_176 hI_177 hF_178 hz_179 => ?_))
                  refine bk_inl ?_
                  refine q_aload_n rfl rfl ?_
                  refine q_iconst rfl ?_
                  refine q_iload_n rfl rfl ?_
                  refine v_cv rfl rfl rfl rfl (by decide) ⟨⟨rfl, rfl⟩, by decide, rfl⟩ (Nat.le_of_ble_eq_true rfl) (Nat.le_of_ble_eq_true rfl) ?_
                  refine q_aload_n rfl rfl ?_
                  refine v_cv rfl rfl rfl rfl (by decide) ⟨⟨rfl, rfl⟩, by decide, rfl⟩ (Nat.le_of_ble_eq_true rfl) (Nat.le_of_ble_eq_true rfl) ?_
                  refine q_aload_n rfl rfl ?_
                  have kn_180 : Hid (c_176 41 5 = (-1)) := (hF_178 41 5 (fun h => absurd h.2 (ni rfl))).trans (hid kn_174)
                  refine v_gi (z := 5) (v := (-1)) rfl rfl rfl (by decide) rfl rfl (hid kn_180) ?_
                  refine q_iconst rfl ?_
                  refine v_ic_ne_f (t := 12) rfl (by decide) (by decide) ?_
                  refine q_iconst rfl ?_
                  refine q_goto (t := 13) rfl (by decide) ?_
                  refine v_zret rfl rfl (by decide) ?_
                  refine bk_inl ?_
                  refine v_if_ne_t (t := 8) rfl (by decide) (by decide) ?_
                  refine q_aload_n rfl rfl ?_
                  refine v_gr (t := 50) rfl rfl rfl (by decide) rfl ?_
                  refine q_aload_n rfl rfl ?_
                  have kn_181 : Hid (c_132 41 29 = n0) := (hF_134 41 29 (fun h => absurd h.2 (ni rfl))).trans (hr_n0)
                  have kn_182 : Hid (c_137 41 29 = n0) := (hF_139 41 29 (fun h => absurd h.2 (ni rfl))).trans (hid kn_181)
                  have kn_183 : Hid (c_149 41 29 = n0) := (hF_151 41 29 (fun h => absurd h.2 (ni rfl))).trans (hid kn_182)
                  have kn_184 : Hid (c_154 41 29 = n0) := (hF_156 41 29 (fun h => absurd h.2 (ni rfl))).trans (hid kn_183)
                  have kn_185 : Hid (c_159 41 29 = n0) := (hF_161 41 29 (fun h => absurd h.2 (ni rfl))).trans (hid kn_184)
                  have kn_186 : Hid (c_176 41 29 = n0) := (hF_178 41 29 (fun h => absurd h.2 (ni rfl))).trans (hid kn_185)
                  refine v_gi (z := 29) (v := n0) rfl rfl rfl (by decide) rfl rfl (hid kn_186) ?_
                  refine q_iload_n rfl rfl ?_
                  refine v_is rfl rfl (by decide) (by decide) (by omega) ?_
                  refine q_aload_n rfl rfl ?_
                  refine v_gr (t := 51) rfl rfl rfl (by decide) rfl ?_
                  refine q_aload_n rfl rfl ?_
                  refine v_gi (z := 29) (v := n0) rfl rfl rfl (by decide) rfl rfl ((up_c (nn rfl)).trans (hid kn_186)) ?_
                  refine q_iload_n rfl rfl ?_
                  refine v_is rfl rfl (by decide) (by decide) (by omega) ?_
                  refine q_aload_n rfl rfl ?_
                  refine q_dup rfl rfl ?_
                  refine v_gi (z := 29) (v := n0) rfl rfl rfl (by decide) rfl rfl ((up_c (nn rfl)).trans ((up_c (nn rfl)).trans (hid kn_186))) ?_
                  refine q_iconst rfl ?_
                  refine v_iadd (v := n0 + 1) rfl rfl ?_
                  refine v_pi (z := 29) rfl rfl rfl (by decide) rfl rfl rfl (by decide) ?_
                  refine q_vret rfl rfl ?_
                  refine bk_inl ?_
                  refine q_vret rfl rfl ?_
                  have hI_187 := iw_50 (j := n0) (v := 1) hI_177 ⟨by decide, by decide⟩
                  have hI_188 := iw_51 (j := n0) (v := 7) hI_187 ⟨by decide, by decide⟩
                  have hI_189 := iw_41_29 (v := n0 + 1) hI_188 ⟨by first | exact rgp_l (rg_eq hg_n0 h_6).1 (by decide) | omega, by first | (clear ha2 hq0 hq1 hq2 hq3 hq4 hq5 hq8 h_1 h_2 h_3 h_4 h_5 h_6 h_7 h_8 h_9 h_10 h_11 h_46 h_65 h_66 h_116 h_117 h_118 h_119 h_120 h_121 h_122 h_123 h_124 h_125 h_126 h_127 h_128 h_129 h_131 h_144 hq6 hq7 h_12 h_21 h_37 h_130 h_142 h_145 h_146 h_147 h_148 h_163 h_164 h_165 h_166 h_167 h_168 h_169; omega) | omega⟩
                  have h_190 : (up (up (up c_176 50 n0 1) 51 n0 7) 41 29 (n0 + 1)) 41 5 = (-1) := ((up_n (by decide)).trans ((up_c (nn rfl)).trans ((up_c (nn rfl)).trans (hid kn_180))))
                  have h_191 : (up (up (up c_176 50 n0 1) 51 n0 7) 41 29 (n0 + 1)) 41 4 = (ln F e1 (nx F e1 p0)) := ((up_n (by decide)).trans ((up_c (nn rfl)).trans ((up_c (nn rfl)).trans (hz_179))))
                  have kn_192 : Hid (c_132 41 6 = c 41 6) := hF_134 41 6 (fun h => absurd h.2 (ni rfl))
                  have kn_193 : Hid (c_137 41 6 = c 41 6) := (hF_139 41 6 (fun h => absurd h.2 (ni rfl))).trans (hid kn_192)
                  have kn_194 : Hid (c_149 41 6 = c 41 6) := (hF_151 41 6 (fun h => absurd h.2 (ni rfl))).trans (hid kn_193)
                  have kn_195 : Hid (c_154 41 6 = c 41 6) := (hF_156 41 6 (fun h => absurd h.2 (ni rfl))).trans (hid kn_194)
                  have kn_196 : Hid (c_159 41 6 = c 41 6) := (hF_161 41 6 (fun h => absurd h.2 (ni rfl))).trans (hid kn_195)
                  have kn_197 : Hid (c_176 41 6 = c 41 6) := (hF_178 41 6 (fun h => absurd h.2 (ni rfl))).trans (hid kn_196)
                  have h_198 : (up (up (up c_176 50 n0 1) 51 n0 7) 41 29 (n0 + 1)) 41 6 = c 41 6 := ((up_n (by decide)).trans ((up_c (nn rfl)).trans ((up_c (nn rfl)).trans (hid kn_197))))
                  have h_199 : (up (up (up c_176 50 n0 1) 51 n0 7) 41 29 (n0 + 1)) 41 29 = n0 + 1 := (up_e rfl)
                  have kn_200 : Hid (c_132 41 7 = o0) := (hF_134 41 7 (fun h => absurd h.2 (ni rfl))).trans (hr_o0)
                  have kn_201 : Hid (c_137 41 7 = o0) := (hF_139 41 7 (fun h => absurd h.2 (ni rfl))).trans (hid kn_200)
                  have kn_202 : Hid (c_149 41 7 = o0) := (hF_151 41 7 (fun h => absurd h.2 (ni rfl))).trans (hid kn_201)
                  have kn_203 : Hid (c_154 41 7 = o0) := (hF_156 41 7 (fun h => absurd h.2 (ni rfl))).trans (hid kn_202)
                  have kn_204 : Hid (c_159 41 7 = o0) := (hF_161 41 7 (fun h => absurd h.2 (ni rfl))).trans (hid kn_203)
                  have kn_205 : Hid (c_176 41 7 = o0) := (hF_178 41 7 (fun h => absurd h.2 (ni rfl))).trans (hid kn_204)
                  have h_206 : (up (up (up c_176 50 n0 1) 51 n0 7) 41 29 (n0 + 1)) 41 7 = o0 := ((up_n (by decide)).trans ((up_c (nn rfl)).trans ((up_c (nn rfl)).trans (hid kn_205))))
                  have h_207 : (up (up (up c_176 50 n0 1) 51 n0 7) 41 29 (n0 + 1)) 41 29 = n0 + 1 := (up_e rfl)
                  have hA_208 : Ce (n0 + 1) ((up (up c_62 (A + 9) n0 ((wd1_0 F (nx F e1 p0) (ln F e1 (nx F e1 p0))) + 1000)) (A + 7) 5 (n0 + 1)) (A + 9)) ((up (up (up c_176 50 n0 1) 51 n0 7) 41 29 (n0 + 1)) 50) ((up (up (up c_176 50 n0 1) 51 n0 7) 41 29 (n0 + 1)) 51) := ce_w (i := n0) (v := (wd1_0 F (nx F e1 p0) (ln F e1 (nx F e1 p0))) + 1000) (w := 1) (o := 7) hr0 (by omega) ((up_c (pp rfl)).trans (up_e rfl)) ((up_c (nn rfl)).trans ((up_c (nn rfl)).trans (up_e rfl))) ((up_c (nn rfl)).trans (up_e rfl)) (fun j hj => (up_c (pp rfl)).trans ((up_n hj).trans ((hF_64 (A + 9) j (fun q => q.elim (fun h => absurd h.1 (np hA rfl rfl)) (fun q => q.elim (fun h => absurd h.1 (np hA rfl rfl)) (fun h => absurd h.1 (np hA rfl rfl))))).trans ((hF_36 (A + 9) j (fun h => absurd h.1 (np hA rfl rfl))).trans ((hF_26 (A + 9) j (fun h => absurd h.1 (np hA rfl rfl))).trans (hF_20 (A + 9) j (fun h => absurd h.1 (np hA rfl rfl)))))))) (fun j hj => (up_c (nn rfl)).trans ((up_c (nn rfl)).trans ((up_n hj).trans ((hF_178 50 j (fun h => absurd h.1 (nn rfl))).trans ((hF_161 50 j (fun h => absurd h.1 (nn rfl))).trans ((hF_156 50 j (fun h => absurd h.1 (nn rfl))).trans ((hF_151 50 j (fun h => absurd h.1 (nn rfl))).trans ((hF_139 50 j (fun h => absurd h.1 (nn rfl))).trans (hF_134 50 j (fun h => absurd h.1 (nn rfl))))))))))) (fun j hj => (up_c (nn rfl)).trans ((up_n hj).trans ((up_c (nn rfl)).trans ((hF_178 51 j (fun h => absurd h.1 (nn rfl))).trans ((hF_161 51 j (fun h => absurd h.1 (nn rfl))).trans ((hF_156 51 j (fun h => absurd h.1 (nn rfl))).trans ((hF_151 51 j (fun h => absurd h.1 (nn rfl))).trans ((hF_139 51 j (fun h => absurd h.1 (nn rfl))).trans (hF_134 51 j (fun h => absurd h.1 (nn rfl))))))))))) (cr_i1 ⟨by first | (clear ha2 hq0 hq1 hq2 hq3 hq4 hq5 h_1 h_2 h_3 h_4 h_5 h_6 h_7 h_8 h_9 h_10 h_11 h_46 h_65 h_66 h_116 h_117 h_118 h_119 h_120 h_121 h_122 h_123 h_124 h_125 h_126 h_127 h_128 h_129 h_131 h_144 hq6 hq7 h_12 h_21 h_37 h_130 h_142 h_145 h_146 h_147 h_148 h_163 h_164 h_165 h_166 h_167 h_168 h_169; omega) | omega, by first | (clear ha2 hq0 hq1 hq2 hq3 hq4 hq5 h_1 h_2 h_3 h_4 h_5 h_6 h_7 h_8 h_9 h_10 h_11 h_46 h_65 h_66 h_116 h_117 h_118 h_119 h_120 h_121 h_122 h_123 h_124 h_125 h_126 h_127 h_128 h_129 h_131 h_144 hq6 hq7 h_12 h_21 h_37 h_130 h_142 h_145 h_146 h_147 h_148 h_163 h_164 h_165 h_166 h_167 h_168 h_169; omega) | omega, by decide, by first | (clear ha2 hq0 hq1 hq2 hq3 hq4 hq5 h_1 h_2 h_3 h_4 h_5 h_6 h_7 h_8 h_9 h_11 h_65 h_116 h_117 h_118 h_120 h_121 h_122 h_123 h_124 h_125 h_126 h_127 h_128 h_129 h_131 h_142; omega) | omega⟩)
                  have hA_209 : Ce (n0 + 1) (m9 (A + 9)) ((up (up (up c_176 50 n0 1) 51 n0 7) 41 29 (n0 + 1)) 50) ((up (up (up c_176 50 n0 1) 51 n0 7) 41 29 (n0 + 1)) 51) := ce_l hA_208 (fun j h1 h2 => wd_av hW (ck_p9 hA) (ck_p9 hA) (by decide) (a68 hA rfl) ⟨h1, by omega⟩ rfl (ir_p9 hI_114 hA j) (ir_p9 hJ9 hA j))
                  exact K (up (up (up c_176 50 n0 1) 51 n0 7) 41 29 (n0 + 1))  hI_189 (fun a j hm => (up_b (Decidable.or_iff_not_imp_left.mpr (fun h1 h2 => hm (Or.inr (Or.inr (Or.inr (Or.inr (Or.inl ⟨Decidable.not_not.mp h1, h2⟩)))))))).trans ((up_b (Decidable.or_iff_not_imp_left.mpr (fun h1 h2 => hm (Or.inr (Or.inr (Or.inr (Or.inr (Or.inr (Or.inr (Decidable.not_not.mp h1)))))))))).trans ((up_b (Decidable.or_iff_not_imp_left.mpr (fun h1 h2 => hm (Or.inr (Or.inr (Or.inr (Or.inr (Or.inr (Or.inl (Decidable.not_not.mp h1)))))))))).trans ((hF_178 a j (fun h => hm (Or.inl h))).trans ((hF_161 a j (fun h => hm (Or.inl h))).trans ((hF_156 a j (fun h => hm (Or.inl h))).trans ((hF_151 a j (fun h => hm (Or.inl h))).trans ((hF_139 a j (fun h => hm (Or.inl h))).trans (hF_134 a j (fun h => hm (Or.inl h))))))))))) (rt_i1 ⟨by first | (clear ha2 hq0 hq1 hq2 hq3 hq4 hq5 hq8 h_1 h_2 h_3 h_4 h_5 h_6 h_7 h_8 h_9 h_10 h_11 h_46 h_65 h_66 h_118 h_119 h_120 h_121 h_122 h_123 h_124 h_125 h_126 h_127 h_128 h_129 h_131 h_144 hq6 hq7 h_12 h_21 h_37 h_130 h_142 h_145 h_146 h_147 h_148 h_163 h_164 h_165 h_166 h_167 h_168 h_169; omega) | omega, by first | (clear ha2 hq0 hq1 hq2 hq3 hq4 hq5 hq8 h_1 h_2 h_3 h_4 h_5 h_6 h_7 h_8 h_9 h_10 h_11 h_46 h_65 h_66 h_116 h_117 h_118 h_119 h_120 h_121 h_122 h_123 h_124 h_125 h_126 h_127 h_128 h_129 h_131 h_144 hq6 hq7 h_12 h_21 h_37 h_130 h_142 h_145 h_146 h_147 h_148 h_163 h_164 h_165 h_166 h_167 h_168 h_169; omega) | omega, by first | (clear ha2 hq0 hq1 hq2 hq3 hq4 hq5 hq8 h_1 h_2 h_3 h_4 h_5 h_6 h_7 h_8 h_9 h_10 h_11 h_46 h_65 h_66 h_116 h_117 h_118 h_120 h_121 h_122 h_123 h_124 h_125 h_126 h_127 h_128 h_129 h_131 h_144 hq6 hq7 h_12 h_21 h_37 h_130 h_142 h_145 h_146 h_147 h_148 h_163 h_164 h_165 h_166 h_167 h_168 h_169; omega) | omega, by first | (clear ha2 hq0 hq2 hq3 hq4 hq5 hq8 h_1 h_2 h_3 h_4 h_5 h_6 h_7 h_8 h_9 h_10 h_11 h_46 h_65 h_66 h_116 h_117 h_118 h_119 h_122 h_123 h_124 h_125 h_126 h_127 h_128 h_129 h_131 h_144 hq6 hq7 h_12 h_21 h_37 h_130 h_142 h_145 h_146 h_147 h_148 h_163 h_164 h_165 h_166 h_167 h_168 h_169; omega) | omega⟩) (Or.inr (Or.inr ⟨by first | (clear ha2 hq0 hq1 hq2 hq3 hq4 hq5 hq8 h_1 h_2 h_3 h_4 h_5 h_6 h_7 h_8 h_9 h_10 h_11 h_46 h_65 h_66 h_116 h_117 h_118 h_119 h_120 h_121 h_122 h_124 h_125 h_126 h_127 h_128 h_129 h_131 h_144 hq6 hq7 h_12 h_21 h_37 h_130 h_142 h_145 h_146 h_147 h_148 h_163 h_164 h_165 h_166 h_167 h_168 h_169; omega) | omega, by first | (clear ha2 hq0 hq1 hq2 h_8 h_9 h_65 h_116 h_117 h_120 h_121 h_126; omega) | omega, by first | (clear ha2 hq0 hq1 hq2 hq3 hq4 hq5 hq8 h_1 h_2 h_3 h_4 h_5 h_6 h_7 h_8 h_9 h_10 h_11 h_65 h_66 h_116 h_117 h_118 h_120 h_121 h_122 h_123 h_124 h_125 h_126 h_127 h_128 h_129 h_131 h_144 hq6 hq7 h_12 h_21 h_37 h_130 h_142 h_145 h_146 h_147 h_148 h_163 h_164 h_165 h_166 h_167 h_168 h_169; omega) | omega, by first | (clear ha2 hq0 hq1 hq2 hq3 hq4 hq5 hq8 h_1 h_2 h_3 h_4 h_5 h_6 h_7 h_8 h_9 h_11 h_65 h_66 h_116 h_117 h_118 h_120 h_121 h_122 h_123 h_124 h_125 h_126 h_127 h_128 h_129 h_131 h_144 hq6 hq7 h_12 h_21 h_37 h_130 h_142 h_145 h_146 h_147 h_148 h_163 h_164 h_165 h_166 h_167 h_168 h_169; omega) | omega⟩)) (by first | (clear ha2 hq0 hq1 hq3 hq4 hq5 hq8 h_1 h_2 h_3 h_4 h_5 h_6 h_7 h_8 h_9 h_10 h_11 h_46 h_65 h_66 h_116 h_117 h_118 h_119 h_120 h_121 h_122 h_123 h_124 h_125 h_126 h_127 h_128 h_129 h_131 h_144 hq6 hq7 h_12 h_21 h_37 h_130 h_142 h_145 h_146 h_147 h_148 h_163 h_164 h_165 h_166 h_167 h_168 h_169; omega) | omega) (fun _ => ce_le hA_209 (by omega))
                · refine v_ic_ne_f (t := 102) rfl (by decide) (Decidable.not_not.mp h_169) ?_
                  refine v_bip rfl (by decide) ?_
                  refine q_goto (t := 117) rfl (by decide) ?_
                  refine q_iret rfl rfl ?_
                  refine bk_inl ?_
                  refine q_istore_n rfl (by decide) ?_
                  refine q_iload_n rfl rfl ?_
                  refine q_iconst rfl ?_
                  refine v_ic_ne_t (t := 136) rfl (by decide) (by decide) ?_
                  refine q_aload_n rfl rfl ?_
                  refine v_cv rfl rfl rfl rfl (by decide) ⟨⟨rfl, rfl⟩, by decide, rfl⟩ (Nat.le_of_ble_eq_true rfl) (Nat.le_of_ble_eq_true rfl) ?_
                  refine q_aload_n rfl rfl ?_
                  have kn_210 : Hid (c_132 41 5 = (-1)) := (hF_134 41 5 (fun h => absurd h.2 (ni rfl))).trans hro_hRt.2.1
                  have kn_211 : Hid (c_137 41 5 = (-1)) := (hF_139 41 5 (fun h => absurd h.2 (ni rfl))).trans (hid kn_210)
                  have kn_212 : Hid (c_149 41 5 = (-1)) := (hF_151 41 5 (fun h => absurd h.2 (ni rfl))).trans (hid kn_211)
                  have kn_213 : Hid (c_154 41 5 = (-1)) := (hF_156 41 5 (fun h => absurd h.2 (ni rfl))).trans (hid kn_212)
                  have kn_214 : Hid (c_159 41 5 = (-1)) := (hF_161 41 5 (fun h => absurd h.2 (ni rfl))).trans (hid kn_213)
                  refine v_gi (z := 5) (v := (-1)) rfl rfl rfl (by decide) rfl rfl (hid kn_214) ?_
                  refine q_iconst rfl ?_
                  refine v_ic_ne_f (t := 12) rfl (by decide) (by decide) ?_
                  refine q_iconst rfl ?_
                  refine q_goto (t := 13) rfl (by decide) ?_
                  refine v_zret rfl rfl (by decide) ?_
                  refine bk_inl ?_
                  refine v_if_ne_t (t := 144) rfl (by decide) (by decide) ?_
                  refine q_aload_n rfl rfl ?_
                  have kn_215 : Hid (c_159 41 3 = e1) := (hF_161 41 3 (fun h => absurd h.2 (ni rfl))).trans (hid kn_158)
                  refine v_cv rfl rfl rfl rfl (by decide) ⟨⟨rfl, rfl⟩, by decide, rfl⟩ (Nat.le_of_ble_eq_true rfl) (Nat.le_of_ble_eq_true rfl) (f_159 (e1 := e1) (a9 := (nx F e1 p0)) (B := H) (L8 := (ln F e1 (nx F e1 p0))) hI_160 ((hid kn_215)) ((hz_162)) (fun j => ((hF_161 43 j (fun h => absurd h.1 (nn rfl))).trans ((hF_156 43 j (fun h => absurd h.1 (nn rfl))).trans ((hF_151 43 j (fun h => absurd h.1 (nn rfl))).trans ((hF_139 43 j (fun h => absurd h.1 (nn rfl))).trans (hF_134 43 j (fun h => absurd h.1 (nn rfl))))))).trans (hH j)) ((ln_tr hU (by first | (clear ha2 hq0 hq1 hq2 hq3 hq4 hq5 hq8 h_1 h_2 h_3 h_4 h_6 h_7 h_8 h_9 h_11 h_46 h_65 h_66 h_116 h_117 h_118 h_119 h_120 h_121 h_122 h_123 h_124 h_125 h_126 h_127 h_128 h_129 h_131 h_144 hq6 hq7 h_12 h_21 h_37 h_130 h_142 h_145 h_146 h_147 h_148 h_163 h_164 h_165 h_166 h_167 h_168; omega) | omega) (by first | (clear ha2 hq0 hq1 hq2 hq3 hq4 hq8 h_1 h_2 h_3 h_4 h_5 h_6 h_7 h_8 h_9 h_10 h_11 h_46 h_65 h_66 h_116 h_117 h_118 h_119 h_120 h_121 h_122 h_123 h_124 h_125 h_126 h_127 h_128 h_129 h_131 h_144 hq6 hq7 h_12 h_21 h_37 h_130 h_142 h_145 h_146 h_147 h_148 h_163 h_164 h_165 h_166 h_167 h_168; omega) | omega)).trans (rfl)) (fun c_216 hI_217 hF_218 hz_219 => ?_))
                  refine bk_inl ?_
                  refine q_aload_n rfl rfl ?_
                  refine q_iconst rfl ?_
                  refine q_iload_n rfl rfl ?_
                  refine v_cv rfl rfl rfl rfl (by decide) ⟨⟨rfl, rfl⟩, by decide, rfl⟩ (Nat.le_of_ble_eq_true rfl) (Nat.le_of_ble_eq_true rfl) ?_
                  refine q_aload_n rfl rfl ?_
                  refine v_cv rfl rfl rfl rfl (by decide) ⟨⟨rfl, rfl⟩, by decide, rfl⟩ (Nat.le_of_ble_eq_true rfl) (Nat.le_of_ble_eq_true rfl) ?_
                  refine q_aload_n rfl rfl ?_
                  have kn_220 : Hid (c_216 41 5 = (-1)) := (hF_218 41 5 (fun h => absurd h.2 (ni rfl))).trans (hid kn_214)
                  refine v_gi (z := 5) (v := (-1)) rfl rfl rfl (by decide) rfl rfl (hid kn_220) ?_
                  refine q_iconst rfl ?_
                  refine v_ic_ne_f (t := 12) rfl (by decide) (by decide) ?_
                  refine q_iconst rfl ?_
                  refine q_goto (t := 13) rfl (by decide) ?_
                  refine v_zret rfl rfl (by decide) ?_
                  refine bk_inl ?_
                  refine v_if_ne_t (t := 8) rfl (by decide) (by decide) ?_
                  refine q_aload_n rfl rfl ?_
                  refine v_gr (t := 50) rfl rfl rfl (by decide) rfl ?_
                  refine q_aload_n rfl rfl ?_
                  have kn_221 : Hid (c_132 41 29 = n0) := (hF_134 41 29 (fun h => absurd h.2 (ni rfl))).trans (hr_n0)
                  have kn_222 : Hid (c_137 41 29 = n0) := (hF_139 41 29 (fun h => absurd h.2 (ni rfl))).trans (hid kn_221)
                  have kn_223 : Hid (c_149 41 29 = n0) := (hF_151 41 29 (fun h => absurd h.2 (ni rfl))).trans (hid kn_222)
                  have kn_224 : Hid (c_154 41 29 = n0) := (hF_156 41 29 (fun h => absurd h.2 (ni rfl))).trans (hid kn_223)
                  have kn_225 : Hid (c_159 41 29 = n0) := (hF_161 41 29 (fun h => absurd h.2 (ni rfl))).trans (hid kn_224)
                  have kn_226 : Hid (c_216 41 29 = n0) := (hF_218 41 29 (fun h => absurd h.2 (ni rfl))).trans (hid kn_225)
                  refine v_gi (z := 29) (v := n0) rfl rfl rfl (by decide) rfl rfl (hid kn_226) ?_
                  refine q_iload_n rfl rfl ?_
                  refine v_is rfl rfl (by decide) (by decide) (by omega) ?_
                  refine q_aload_n rfl rfl ?_
                  refine v_gr (t := 51) rfl rfl rfl (by decide) rfl ?_
                  refine q_aload_n rfl rfl ?_
                  refine v_gi (z := 29) (v := n0) rfl rfl rfl (by decide) rfl rfl ((up_c (nn rfl)).trans (hid kn_226)) ?_
                  refine q_iload_n rfl rfl ?_
                  refine v_is rfl rfl (by decide) (by decide) (by omega) ?_
                  refine q_aload_n rfl rfl ?_
                  refine q_dup rfl rfl ?_
                  refine v_gi (z := 29) (v := n0) rfl rfl rfl (by decide) rfl rfl ((up_c (nn rfl)).trans ((up_c (nn rfl)).trans (hid kn_226))) ?_
                  refine q_iconst rfl ?_
                  refine v_iadd (v := n0 + 1) rfl rfl ?_
                  refine v_pi (z := 29) rfl rfl rfl (by decide) rfl rfl rfl (by decide) ?_
                  refine q_vret rfl rfl ?_
                  refine bk_inl ?_
                  refine q_vret rfl rfl ?_
                  have hI_227 := iw_50 (j := n0) (v := 1) hI_217 ⟨by decide, by decide⟩
                  have hI_228 := iw_51 (j := n0) (v := 6) hI_227 ⟨by decide, by decide⟩
                  have hI_229 := iw_41_29 (v := n0 + 1) hI_228 ⟨by first | exact rgp_l (rg_eq hg_n0 h_6).1 (by decide) | omega, by first | (clear ha2 hq0 hq1 hq2 hq3 hq4 hq5 hq8 h_1 h_2 h_3 h_4 h_5 h_6 h_7 h_8 h_9 h_10 h_11 h_46 h_65 h_66 h_116 h_117 h_118 h_119 h_120 h_121 h_122 h_123 h_124 h_125 h_126 h_127 h_128 h_129 h_131 h_144 hq6 hq7 h_12 h_21 h_37 h_130 h_142 h_145 h_146 h_147 h_148 h_163 h_164 h_165 h_166 h_167 h_168; omega) | omega⟩
                  have h_230 : (up (up (up c_216 50 n0 1) 51 n0 6) 41 29 (n0 + 1)) 41 5 = (-1) := ((up_n (by decide)).trans ((up_c (nn rfl)).trans ((up_c (nn rfl)).trans (hid kn_220))))
                  have h_231 : (up (up (up c_216 50 n0 1) 51 n0 6) 41 29 (n0 + 1)) 41 4 = (ln F e1 (nx F e1 p0)) := ((up_n (by decide)).trans ((up_c (nn rfl)).trans ((up_c (nn rfl)).trans (hz_219))))
                  have kn_232 : Hid (c_132 41 6 = c 41 6) := hF_134 41 6 (fun h => absurd h.2 (ni rfl))
                  have kn_233 : Hid (c_137 41 6 = c 41 6) := (hF_139 41 6 (fun h => absurd h.2 (ni rfl))).trans (hid kn_232)
                  have kn_234 : Hid (c_149 41 6 = c 41 6) := (hF_151 41 6 (fun h => absurd h.2 (ni rfl))).trans (hid kn_233)
                  have kn_235 : Hid (c_154 41 6 = c 41 6) := (hF_156 41 6 (fun h => absurd h.2 (ni rfl))).trans (hid kn_234)
                  have kn_236 : Hid (c_159 41 6 = c 41 6) := (hF_161 41 6 (fun h => absurd h.2 (ni rfl))).trans (hid kn_235)
                  have kn_237 : Hid (c_216 41 6 = c 41 6) := (hF_218 41 6 (fun h => absurd h.2 (ni rfl))).trans (hid kn_236)
                  have h_238 : (up (up (up c_216 50 n0 1) 51 n0 6) 41 29 (n0 + 1)) 41 6 = c 41 6 := ((up_n (by decide)).trans ((up_c (nn rfl)).trans ((up_c (nn rfl)).trans (hid kn_237))))
                  have h_239 : (up (up (up c_216 50 n0 1) 51 n0 6) 41 29 (n0 + 1)) 41 29 = n0 + 1 := (up_e rfl)
                  have kn_240 : Hid (c_132 41 7 = o0) := (hF_134 41 7 (fun h => absurd h.2 (ni rfl))).trans (hr_o0)
                  have kn_241 : Hid (c_137 41 7 = o0) := (hF_139 41 7 (fun h => absurd h.2 (ni rfl))).trans (hid kn_240)
                  have kn_242 : Hid (c_149 41 7 = o0) := (hF_151 41 7 (fun h => absurd h.2 (ni rfl))).trans (hid kn_241)
                  have kn_243 : Hid (c_154 41 7 = o0) := (hF_156 41 7 (fun h => absurd h.2 (ni rfl))).trans (hid kn_242)
                  have kn_244 : Hid (c_159 41 7 = o0) := (hF_161 41 7 (fun h => absurd h.2 (ni rfl))).trans (hid kn_243)
                  have kn_245 : Hid (c_216 41 7 = o0) := (hF_218 41 7 (fun h => absurd h.2 (ni rfl))).trans (hid kn_244)
                  have h_246 : (up (up (up c_216 50 n0 1) 51 n0 6) 41 29 (n0 + 1)) 41 7 = o0 := ((up_n (by decide)).trans ((up_c (nn rfl)).trans ((up_c (nn rfl)).trans (hid kn_245))))
                  have h_247 : (up (up (up c_216 50 n0 1) 51 n0 6) 41 29 (n0 + 1)) 41 29 = n0 + 1 := (up_e rfl)
                  have hA_248 : Ce (n0 + 1) ((up (up c_62 (A + 9) n0 ((wd1_0 F (nx F e1 p0) (ln F e1 (nx F e1 p0))) + 1000)) (A + 7) 5 (n0 + 1)) (A + 9)) ((up (up (up c_216 50 n0 1) 51 n0 6) 41 29 (n0 + 1)) 50) ((up (up (up c_216 50 n0 1) 51 n0 6) 41 29 (n0 + 1)) 51) := ce_w (i := n0) (v := (wd1_0 F (nx F e1 p0) (ln F e1 (nx F e1 p0))) + 1000) (w := 1) (o := 6) hr0 (by omega) ((up_c (pp rfl)).trans (up_e rfl)) ((up_c (nn rfl)).trans ((up_c (nn rfl)).trans (up_e rfl))) ((up_c (nn rfl)).trans (up_e rfl)) (fun j hj => (up_c (pp rfl)).trans ((up_n hj).trans ((hF_64 (A + 9) j (fun q => q.elim (fun h => absurd h.1 (np hA rfl rfl)) (fun q => q.elim (fun h => absurd h.1 (np hA rfl rfl)) (fun h => absurd h.1 (np hA rfl rfl))))).trans ((hF_36 (A + 9) j (fun h => absurd h.1 (np hA rfl rfl))).trans ((hF_26 (A + 9) j (fun h => absurd h.1 (np hA rfl rfl))).trans (hF_20 (A + 9) j (fun h => absurd h.1 (np hA rfl rfl)))))))) (fun j hj => (up_c (nn rfl)).trans ((up_c (nn rfl)).trans ((up_n hj).trans ((hF_218 50 j (fun h => absurd h.1 (nn rfl))).trans ((hF_161 50 j (fun h => absurd h.1 (nn rfl))).trans ((hF_156 50 j (fun h => absurd h.1 (nn rfl))).trans ((hF_151 50 j (fun h => absurd h.1 (nn rfl))).trans ((hF_139 50 j (fun h => absurd h.1 (nn rfl))).trans (hF_134 50 j (fun h => absurd h.1 (nn rfl))))))))))) (fun j hj => (up_c (nn rfl)).trans ((up_n hj).trans ((up_c (nn rfl)).trans ((hF_218 51 j (fun h => absurd h.1 (nn rfl))).trans ((hF_161 51 j (fun h => absurd h.1 (nn rfl))).trans ((hF_156 51 j (fun h => absurd h.1 (nn rfl))).trans ((hF_151 51 j (fun h => absurd h.1 (nn rfl))).trans ((hF_139 51 j (fun h => absurd h.1 (nn rfl))).trans (hF_134 51 j (fun h => absurd h.1 (nn rfl))))))))))) (cr_i1 ⟨by first | (clear ha2 hq0 hq1 hq2 hq3 hq4 hq5 h_1 h_2 h_3 h_4 h_5 h_6 h_7 h_8 h_9 h_10 h_11 h_46 h_65 h_66 h_116 h_117 h_118 h_119 h_120 h_121 h_122 h_123 h_124 h_125 h_126 h_127 h_128 h_129 h_131 h_144 hq6 hq7 h_12 h_21 h_37 h_130 h_142 h_145 h_146 h_147 h_148 h_163 h_164 h_165 h_166 h_167 h_168; omega) | omega, by first | (clear ha2 hq0 hq1 hq2 hq3 hq4 hq5 h_1 h_2 h_3 h_4 h_5 h_6 h_7 h_8 h_9 h_10 h_11 h_46 h_65 h_66 h_116 h_117 h_118 h_119 h_120 h_121 h_122 h_123 h_124 h_125 h_126 h_127 h_128 h_129 h_131 h_144 hq6 hq7 h_12 h_21 h_37 h_130 h_142 h_145 h_146 h_147 h_148 h_163 h_164 h_165 h_166 h_167 h_168; omega) | omega, by decide, by first | (clear ha2 hq0 hq1 hq2 hq3 hq4 hq5 h_1 h_2 h_3 h_4 h_5 h_6 h_7 h_8 h_9 h_10 h_11 h_46 h_65 h_116 h_117 h_118 h_119 h_120 h_121 h_122 h_123 h_124 h_125 h_126 h_127 h_128 h_129 h_131 h_144 hq6 hq7 h_12 h_21 h_37 h_130 h_142 h_147 h_148 h_163 h_164 h_165 h_166 h_167 h_168; omega) | omega⟩)
                  have hA_249 : Ce (n0 + 1) (m9 (A + 9)) ((up (up (up c_216 50 n0 1) 51 n0 6) 41 29 (n0 + 1)) 50) ((up (up (up c_216 50 n0 1) 51 n0 6) 41 29 (n0 + 1)) 51) := ce_l hA_248 (fun j h1 h2 => wd_av hW (ck_p9 hA) (ck_p9 hA) (by decide) (a68 hA rfl) ⟨h1, by omega⟩ rfl (ir_p9 hI_114 hA j) (ir_p9 hJ9 hA j))
                  exact K (up (up (up c_216 50 n0 1) 51 n0 6) 41 29 (n0 + 1))  hI_229 (fun a j hm => (up_b (Decidable.or_iff_not_imp_left.mpr (fun h1 h2 => hm (Or.inr (Or.inr (Or.inr (Or.inr (Or.inl ⟨Decidable.not_not.mp h1, h2⟩)))))))).trans ((up_b (Decidable.or_iff_not_imp_left.mpr (fun h1 h2 => hm (Or.inr (Or.inr (Or.inr (Or.inr (Or.inr (Or.inr (Decidable.not_not.mp h1)))))))))).trans ((up_b (Decidable.or_iff_not_imp_left.mpr (fun h1 h2 => hm (Or.inr (Or.inr (Or.inr (Or.inr (Or.inr (Or.inl (Decidable.not_not.mp h1)))))))))).trans ((hF_218 a j (fun h => hm (Or.inl h))).trans ((hF_161 a j (fun h => hm (Or.inl h))).trans ((hF_156 a j (fun h => hm (Or.inl h))).trans ((hF_151 a j (fun h => hm (Or.inl h))).trans ((hF_139 a j (fun h => hm (Or.inl h))).trans (hF_134 a j (fun h => hm (Or.inl h))))))))))) (rt_i1 ⟨by first | (clear ha2 hq0 hq1 hq2 hq3 hq4 hq5 hq8 h_1 h_2 h_3 h_4 h_5 h_6 h_7 h_8 h_9 h_10 h_11 h_46 h_65 h_66 h_118 h_119 h_120 h_121 h_122 h_123 h_124 h_125 h_126 h_127 h_128 h_129 h_131 h_144 hq6 hq7 h_12 h_21 h_37 h_130 h_142 h_145 h_146 h_147 h_148 h_163 h_164 h_165 h_166 h_167 h_168; omega) | omega, by first | (clear ha2 hq0 hq1 hq2 hq3 hq4 hq5 hq8 h_1 h_2 h_3 h_4 h_5 h_6 h_7 h_8 h_9 h_10 h_11 h_46 h_65 h_66 h_116 h_117 h_118 h_119 h_120 h_121 h_122 h_123 h_124 h_125 h_126 h_127 h_128 h_129 h_131 h_144 hq6 hq7 h_12 h_21 h_37 h_130 h_142 h_145 h_146 h_147 h_148 h_163 h_164 h_165 h_166 h_167 h_168; omega) | omega, by first | (clear ha2 hq0 hq1 hq2 hq3 hq4 hq5 hq8 h_1 h_2 h_3 h_4 h_5 h_6 h_7 h_8 h_9 h_10 h_11 h_46 h_65 h_66 h_116 h_117 h_118 h_120 h_121 h_122 h_123 h_124 h_125 h_126 h_127 h_128 h_129 h_131 h_144 hq6 hq7 h_12 h_21 h_37 h_130 h_142 h_145 h_146 h_147 h_148 h_163 h_164 h_165 h_166 h_167 h_168; omega) | omega, by first | (clear ha2 hq0 hq2 hq3 hq4 hq5 hq8 h_1 h_2 h_3 h_4 h_5 h_6 h_7 h_8 h_9 h_10 h_11 h_46 h_65 h_66 h_116 h_117 h_118 h_119 h_122 h_123 h_124 h_125 h_126 h_127 h_128 h_129 h_131 h_144 hq6 hq7 h_12 h_21 h_37 h_130 h_142 h_145 h_146 h_147 h_148 h_163 h_164 h_165 h_166 h_167 h_168; omega) | omega⟩) (Or.inr (Or.inr ⟨by first | (clear ha2 hq0 hq1 hq2 hq3 hq4 hq5 hq8 h_1 h_2 h_3 h_4 h_5 h_6 h_7 h_8 h_9 h_10 h_11 h_46 h_65 h_66 h_116 h_117 h_118 h_119 h_120 h_121 h_122 h_124 h_125 h_126 h_127 h_128 h_129 h_131 h_144 hq6 hq7 h_12 h_21 h_37 h_130 h_142 h_145 h_146 h_147 h_148 h_163 h_164 h_165 h_166 h_167 h_168; omega) | omega, by first | (clear ha2 hq0 hq1 hq2 h_8 h_9 h_65 h_116 h_117 h_120 h_121 h_126; omega) | omega, by first | (clear ha2 hq0 hq1 hq2 hq3 hq4 hq5 hq8 h_1 h_2 h_3 h_4 h_5 h_6 h_7 h_8 h_9 h_10 h_11 h_65 h_66 h_116 h_117 h_118 h_120 h_121 h_122 h_123 h_124 h_125 h_126 h_127 h_128 h_129 h_131 h_144 hq6 hq7 h_12 h_21 h_37 h_130 h_142 h_145 h_146 h_147 h_148 h_163 h_164 h_165 h_166 h_167 h_168; omega) | omega, by first | (clear ha2 hq0 hq1 hq2 hq3 hq4 hq5 hq8 h_1 h_2 h_3 h_4 h_5 h_6 h_7 h_8 h_9 h_11 h_65 h_66 h_116 h_117 h_118 h_120 h_121 h_122 h_123 h_124 h_125 h_126 h_127 h_128 h_129 h_131 h_144 hq6 hq7 h_12 h_21 h_37 h_130 h_142 h_145 h_146 h_147 h_148 h_163 h_164 h_165 h_166 h_167 h_168; omega) | omega⟩)) (by first | (clear ha2 hq0 hq1 hq3 hq4 hq5 hq8 h_1 h_2 h_3 h_4 h_5 h_6 h_7 h_8 h_9 h_10 h_11 h_46 h_65 h_66 h_116 h_117 h_118 h_119 h_120 h_121 h_122 h_123 h_124 h_125 h_126 h_127 h_128 h_129 h_131 h_144 hq6 hq7 h_12 h_21 h_37 h_130 h_142 h_145 h_146 h_147 h_148 h_163 h_164 h_165 h_166 h_167 h_168; omega) | omega) (fun _ => ce_le hA_249 (by omega))
              · refine v_ic_ne_f (t := 87) rfl (by decide) (Decidable.not_not.mp h_168) ?_
                refine q_iconst rfl ?_
                refine q_goto (t := 117) rfl (by decide) ?_
                refine q_iret rfl rfl ?_
                refine bk_inl ?_
                refine q_istore_n rfl (by decide) ?_
                refine q_iload_n rfl rfl ?_
                refine q_iconst rfl ?_
                refine v_ic_ne_t (t := 136) rfl (by decide) (by decide) ?_
                refine q_aload_n rfl rfl ?_
                refine v_cv rfl rfl rfl rfl (by decide) ⟨⟨rfl, rfl⟩, by decide, rfl⟩ (Nat.le_of_ble_eq_true rfl) (Nat.le_of_ble_eq_true rfl) ?_
                refine q_aload_n rfl rfl ?_
                have kn_250 : Hid (c_132 41 5 = (-1)) := (hF_134 41 5 (fun h => absurd h.2 (ni rfl))).trans hro_hRt.2.1
                have kn_251 : Hid (c_137 41 5 = (-1)) := (hF_139 41 5 (fun h => absurd h.2 (ni rfl))).trans (hid kn_250)
                have kn_252 : Hid (c_149 41 5 = (-1)) := (hF_151 41 5 (fun h => absurd h.2 (ni rfl))).trans (hid kn_251)
                have kn_253 : Hid (c_154 41 5 = (-1)) := (hF_156 41 5 (fun h => absurd h.2 (ni rfl))).trans (hid kn_252)
                have kn_254 : Hid (c_159 41 5 = (-1)) := (hF_161 41 5 (fun h => absurd h.2 (ni rfl))).trans (hid kn_253)
                refine v_gi (z := 5) (v := (-1)) rfl rfl rfl (by decide) rfl rfl (hid kn_254) ?_
                refine q_iconst rfl ?_
                refine v_ic_ne_f (t := 12) rfl (by decide) (by decide) ?_
                refine q_iconst rfl ?_
                refine q_goto (t := 13) rfl (by decide) ?_
                refine v_zret rfl rfl (by decide) ?_
                refine bk_inl ?_
                refine v_if_ne_t (t := 144) rfl (by decide) (by decide) ?_
                refine q_aload_n rfl rfl ?_
                have kn_255 : Hid (c_159 41 3 = e1) := (hF_161 41 3 (fun h => absurd h.2 (ni rfl))).trans (hid kn_158)
                refine v_cv rfl rfl rfl rfl (by decide) ⟨⟨rfl, rfl⟩, by decide, rfl⟩ (Nat.le_of_ble_eq_true rfl) (Nat.le_of_ble_eq_true rfl) (f_159 (e1 := e1) (a9 := (nx F e1 p0)) (B := H) (L8 := (ln F e1 (nx F e1 p0))) hI_160 ((hid kn_255)) ((hz_162)) (fun j => ((hF_161 43 j (fun h => absurd h.1 (nn rfl))).trans ((hF_156 43 j (fun h => absurd h.1 (nn rfl))).trans ((hF_151 43 j (fun h => absurd h.1 (nn rfl))).trans ((hF_139 43 j (fun h => absurd h.1 (nn rfl))).trans (hF_134 43 j (fun h => absurd h.1 (nn rfl))))))).trans (hH j)) ((ln_tr hU (by first | (clear ha2 hq0 hq1 hq2 hq3 hq4 hq5 hq8 h_1 h_2 h_3 h_4 h_6 h_7 h_8 h_9 h_11 h_46 h_65 h_66 h_116 h_117 h_118 h_119 h_120 h_121 h_122 h_123 h_124 h_125 h_126 h_127 h_128 h_129 h_131 h_144 hq6 hq7 h_12 h_21 h_37 h_130 h_142 h_145 h_146 h_147 h_148 h_163 h_164 h_165 h_166 h_167; omega) | omega) (by first | (clear ha2 hq0 hq1 hq2 hq3 hq4 hq8 h_1 h_2 h_3 h_4 h_5 h_6 h_7 h_8 h_9 h_10 h_11 h_46 h_65 h_66 h_116 h_117 h_118 h_119 h_120 h_121 h_122 h_123 h_124 h_125 h_126 h_127 h_128 h_129 h_131 h_144 hq6 hq7 h_12 h_21 h_37 h_130 h_142 h_145 h_146 h_147 h_148 h_163 h_164 h_165 h_166 h_167; omega) | omega)).trans (rfl)) (fun c_256 hI_257 hF_258 hz_259 => ?_))
                refine bk_inl ?_
                refine q_aload_n rfl rfl ?_
                refine q_iconst rfl ?_
                refine q_iload_n rfl rfl ?_
                refine v_cv rfl rfl rfl rfl (by decide) ⟨⟨rfl, rfl⟩, by decide, rfl⟩ (Nat.le_of_ble_eq_true rfl) (Nat.le_of_ble_eq_true rfl) ?_
                refine q_aload_n rfl rfl ?_
                refine v_cv rfl rfl rfl rfl (by decide) ⟨⟨rfl, rfl⟩, by decide, rfl⟩ (Nat.le_of_ble_eq_true rfl) (Nat.le_of_ble_eq_true rfl) ?_
                refine q_aload_n rfl rfl ?_
                have kn_260 : Hid (c_256 41 5 = (-1)) := (hF_258 41 5 (fun h => absurd h.2 (ni rfl))).trans (hid kn_254)
                refine v_gi (z := 5) (v := (-1)) rfl rfl rfl (by decide) rfl rfl (hid kn_260) ?_
                refine q_iconst rfl ?_
                refine v_ic_ne_f (t := 12) rfl (by decide) (by decide) ?_
                refine q_iconst rfl ?_
                refine q_goto (t := 13) rfl (by decide) ?_
                refine v_zret rfl rfl (by decide) ?_
                refine bk_inl ?_
                refine v_if_ne_t (t := 8) rfl (by decide) (by decide) ?_
                refine q_aload_n rfl rfl ?_
                refine v_gr (t := 50) rfl rfl rfl (by decide) rfl ?_
                refine q_aload_n rfl rfl ?_
                have kn_261 : Hid (c_132 41 29 = n0) := (hF_134 41 29 (fun h => absurd h.2 (ni rfl))).trans (hr_n0)
                have kn_262 : Hid (c_137 41 29 = n0) := (hF_139 41 29 (fun h => absurd h.2 (ni rfl))).trans (hid kn_261)
                have kn_263 : Hid (c_149 41 29 = n0) := (hF_151 41 29 (fun h => absurd h.2 (ni rfl))).trans (hid kn_262)
                have kn_264 : Hid (c_154 41 29 = n0) := (hF_156 41 29 (fun h => absurd h.2 (ni rfl))).trans (hid kn_263)
                have kn_265 : Hid (c_159 41 29 = n0) := (hF_161 41 29 (fun h => absurd h.2 (ni rfl))).trans (hid kn_264)
                have kn_266 : Hid (c_256 41 29 = n0) := (hF_258 41 29 (fun h => absurd h.2 (ni rfl))).trans (hid kn_265)
                refine v_gi (z := 29) (v := n0) rfl rfl rfl (by decide) rfl rfl (hid kn_266) ?_
                refine q_iload_n rfl rfl ?_
                refine v_is rfl rfl (by decide) (by decide) (by omega) ?_
                refine q_aload_n rfl rfl ?_
                refine v_gr (t := 51) rfl rfl rfl (by decide) rfl ?_
                refine q_aload_n rfl rfl ?_
                refine v_gi (z := 29) (v := n0) rfl rfl rfl (by decide) rfl rfl ((up_c (nn rfl)).trans (hid kn_266)) ?_
                refine q_iload_n rfl rfl ?_
                refine v_is rfl rfl (by decide) (by decide) (by omega) ?_
                refine q_aload_n rfl rfl ?_
                refine q_dup rfl rfl ?_
                refine v_gi (z := 29) (v := n0) rfl rfl rfl (by decide) rfl rfl ((up_c (nn rfl)).trans ((up_c (nn rfl)).trans (hid kn_266))) ?_
                refine q_iconst rfl ?_
                refine v_iadd (v := n0 + 1) rfl rfl ?_
                refine v_pi (z := 29) rfl rfl rfl (by decide) rfl rfl rfl (by decide) ?_
                refine q_vret rfl rfl ?_
                refine bk_inl ?_
                refine q_vret rfl rfl ?_
                have hI_267 := iw_50 (j := n0) (v := 1) hI_257 ⟨by decide, by decide⟩
                have hI_268 := iw_51 (j := n0) (v := 5) hI_267 ⟨by decide, by decide⟩
                have hI_269 := iw_41_29 (v := n0 + 1) hI_268 ⟨by first | exact rgp_l (rg_eq hg_n0 h_6).1 (by decide) | omega, by first | (clear ha2 hq0 hq1 hq2 hq3 hq4 hq5 hq8 h_1 h_2 h_3 h_4 h_5 h_6 h_7 h_8 h_9 h_10 h_11 h_46 h_65 h_66 h_116 h_117 h_118 h_119 h_120 h_121 h_122 h_123 h_124 h_125 h_126 h_127 h_128 h_129 h_131 h_144 hq6 hq7 h_12 h_21 h_37 h_130 h_142 h_145 h_146 h_147 h_148 h_163 h_164 h_165 h_166 h_167; omega) | omega⟩
                have h_270 : (up (up (up c_256 50 n0 1) 51 n0 5) 41 29 (n0 + 1)) 41 5 = (-1) := ((up_n (by decide)).trans ((up_c (nn rfl)).trans ((up_c (nn rfl)).trans (hid kn_260))))
                have h_271 : (up (up (up c_256 50 n0 1) 51 n0 5) 41 29 (n0 + 1)) 41 4 = (ln F e1 (nx F e1 p0)) := ((up_n (by decide)).trans ((up_c (nn rfl)).trans ((up_c (nn rfl)).trans (hz_259))))
                have kn_272 : Hid (c_132 41 6 = c 41 6) := hF_134 41 6 (fun h => absurd h.2 (ni rfl))
                have kn_273 : Hid (c_137 41 6 = c 41 6) := (hF_139 41 6 (fun h => absurd h.2 (ni rfl))).trans (hid kn_272)
                have kn_274 : Hid (c_149 41 6 = c 41 6) := (hF_151 41 6 (fun h => absurd h.2 (ni rfl))).trans (hid kn_273)
                have kn_275 : Hid (c_154 41 6 = c 41 6) := (hF_156 41 6 (fun h => absurd h.2 (ni rfl))).trans (hid kn_274)
                have kn_276 : Hid (c_159 41 6 = c 41 6) := (hF_161 41 6 (fun h => absurd h.2 (ni rfl))).trans (hid kn_275)
                have kn_277 : Hid (c_256 41 6 = c 41 6) := (hF_258 41 6 (fun h => absurd h.2 (ni rfl))).trans (hid kn_276)
                have h_278 : (up (up (up c_256 50 n0 1) 51 n0 5) 41 29 (n0 + 1)) 41 6 = c 41 6 := ((up_n (by decide)).trans ((up_c (nn rfl)).trans ((up_c (nn rfl)).trans (hid kn_277))))
                have h_279 : (up (up (up c_256 50 n0 1) 51 n0 5) 41 29 (n0 + 1)) 41 29 = n0 + 1 := (up_e rfl)
                have kn_280 : Hid (c_132 41 7 = o0) := (hF_134 41 7 (fun h => absurd h.2 (ni rfl))).trans (hr_o0)
                have kn_281 : Hid (c_137 41 7 = o0) := (hF_139 41 7 (fun h => absurd h.2 (ni rfl))).trans (hid kn_280)
                have kn_282 : Hid (c_149 41 7 = o0) := (hF_151 41 7 (fun h => absurd h.2 (ni rfl))).trans (hid kn_281)
                have kn_283 : Hid (c_154 41 7 = o0) := (hF_156 41 7 (fun h => absurd h.2 (ni rfl))).trans (hid kn_282)
                have kn_284 : Hid (c_159 41 7 = o0) := (hF_161 41 7 (fun h => absurd h.2 (ni rfl))).trans (hid kn_283)
                have kn_285 : Hid (c_256 41 7 = o0) := (hF_258 41 7 (fun h => absurd h.2 (ni rfl))).trans (hid kn_284)
                have h_286 : (up (up (up c_256 50 n0 1) 51 n0 5) 41 29 (n0 + 1)) 41 7 = o0 := ((up_n (by decide)).trans ((up_c (nn rfl)).trans ((up_c (nn rfl)).trans (hid kn_285))))
                have h_287 : (up (up (up c_256 50 n0 1) 51 n0 5) 41 29 (n0 + 1)) 41 29 = n0 + 1 := (up_e rfl)
                have hA_288 : Ce (n0 + 1) ((up (up c_62 (A + 9) n0 ((wd1_0 F (nx F e1 p0) (ln F e1 (nx F e1 p0))) + 1000)) (A + 7) 5 (n0 + 1)) (A + 9)) ((up (up (up c_256 50 n0 1) 51 n0 5) 41 29 (n0 + 1)) 50) ((up (up (up c_256 50 n0 1) 51 n0 5) 41 29 (n0 + 1)) 51) := ce_w (i := n0) (v := (wd1_0 F (nx F e1 p0) (ln F e1 (nx F e1 p0))) + 1000) (w := 1) (o := 5) hr0 (by omega) ((up_c (pp rfl)).trans (up_e rfl)) ((up_c (nn rfl)).trans ((up_c (nn rfl)).trans (up_e rfl))) ((up_c (nn rfl)).trans (up_e rfl)) (fun j hj => (up_c (pp rfl)).trans ((up_n hj).trans ((hF_64 (A + 9) j (fun q => q.elim (fun h => absurd h.1 (np hA rfl rfl)) (fun q => q.elim (fun h => absurd h.1 (np hA rfl rfl)) (fun h => absurd h.1 (np hA rfl rfl))))).trans ((hF_36 (A + 9) j (fun h => absurd h.1 (np hA rfl rfl))).trans ((hF_26 (A + 9) j (fun h => absurd h.1 (np hA rfl rfl))).trans (hF_20 (A + 9) j (fun h => absurd h.1 (np hA rfl rfl)))))))) (fun j hj => (up_c (nn rfl)).trans ((up_c (nn rfl)).trans ((up_n hj).trans ((hF_258 50 j (fun h => absurd h.1 (nn rfl))).trans ((hF_161 50 j (fun h => absurd h.1 (nn rfl))).trans ((hF_156 50 j (fun h => absurd h.1 (nn rfl))).trans ((hF_151 50 j (fun h => absurd h.1 (nn rfl))).trans ((hF_139 50 j (fun h => absurd h.1 (nn rfl))).trans (hF_134 50 j (fun h => absurd h.1 (nn rfl))))))))))) (fun j hj => (up_c (nn rfl)).trans ((up_n hj).trans ((up_c (nn rfl)).trans ((hF_258 51 j (fun h => absurd h.1 (nn rfl))).trans ((hF_161 51 j (fun h => absurd h.1 (nn rfl))).trans ((hF_156 51 j (fun h => absurd h.1 (nn rfl))).trans ((hF_151 51 j (fun h => absurd h.1 (nn rfl))).trans ((hF_139 51 j (fun h => absurd h.1 (nn rfl))).trans (hF_134 51 j (fun h => absurd h.1 (nn rfl))))))))))) (cr_i1 ⟨by first | (clear ha2 hq0 hq1 hq2 hq3 hq4 hq5 h_1 h_2 h_3 h_4 h_5 h_6 h_7 h_8 h_9 h_10 h_11 h_46 h_65 h_66 h_116 h_117 h_118 h_119 h_120 h_121 h_122 h_123 h_124 h_125 h_126 h_127 h_128 h_129 h_131 h_144 hq6 hq7 h_12 h_21 h_37 h_130 h_142 h_145 h_146 h_147 h_148 h_163 h_164 h_165 h_166 h_167; omega) | omega, by first | (clear ha2 hq0 hq1 hq2 hq3 hq4 hq5 h_1 h_2 h_3 h_4 h_5 h_6 h_7 h_8 h_9 h_10 h_11 h_46 h_65 h_66 h_116 h_117 h_118 h_119 h_120 h_121 h_122 h_123 h_124 h_125 h_126 h_127 h_128 h_129 h_131 h_144 hq6 hq7 h_12 h_21 h_37 h_130 h_142 h_145 h_146 h_147 h_148 h_163 h_164 h_165 h_166 h_167; omega) | omega, by decide, by first | (clear ha2 hq0 hq1 hq2 hq3 hq4 hq5 h_1 h_2 h_3 h_4 h_5 h_6 h_7 h_8 h_9 h_10 h_11 h_46 h_65 h_116 h_117 h_118 h_119 h_120 h_121 h_122 h_123 h_124 h_125 h_126 h_127 h_128 h_129 h_131 h_144 hq6 hq7 h_12 h_21 h_37 h_130 h_142 h_147 h_148 h_163 h_164 h_165 h_166 h_167; omega) | omega⟩)
                have hA_289 : Ce (n0 + 1) (m9 (A + 9)) ((up (up (up c_256 50 n0 1) 51 n0 5) 41 29 (n0 + 1)) 50) ((up (up (up c_256 50 n0 1) 51 n0 5) 41 29 (n0 + 1)) 51) := ce_l hA_288 (fun j h1 h2 => wd_av hW (ck_p9 hA) (ck_p9 hA) (by decide) (a68 hA rfl) ⟨h1, by omega⟩ rfl (ir_p9 hI_114 hA j) (ir_p9 hJ9 hA j))
                exact K (up (up (up c_256 50 n0 1) 51 n0 5) 41 29 (n0 + 1))  hI_269 (fun a j hm => (up_b (Decidable.or_iff_not_imp_left.mpr (fun h1 h2 => hm (Or.inr (Or.inr (Or.inr (Or.inr (Or.inl ⟨Decidable.not_not.mp h1, h2⟩)))))))).trans ((up_b (Decidable.or_iff_not_imp_left.mpr (fun h1 h2 => hm (Or.inr (Or.inr (Or.inr (Or.inr (Or.inr (Or.inr (Decidable.not_not.mp h1)))))))))).trans ((up_b (Decidable.or_iff_not_imp_left.mpr (fun h1 h2 => hm (Or.inr (Or.inr (Or.inr (Or.inr (Or.inr (Or.inl (Decidable.not_not.mp h1)))))))))).trans ((hF_258 a j (fun h => hm (Or.inl h))).trans ((hF_161 a j (fun h => hm (Or.inl h))).trans ((hF_156 a j (fun h => hm (Or.inl h))).trans ((hF_151 a j (fun h => hm (Or.inl h))).trans ((hF_139 a j (fun h => hm (Or.inl h))).trans (hF_134 a j (fun h => hm (Or.inl h))))))))))) (rt_i1 ⟨by first | (clear ha2 hq0 hq1 hq2 hq3 hq4 hq5 hq8 h_1 h_2 h_3 h_4 h_5 h_6 h_7 h_8 h_9 h_10 h_11 h_46 h_65 h_66 h_118 h_119 h_120 h_121 h_122 h_123 h_124 h_125 h_126 h_127 h_128 h_129 h_131 h_144 hq6 hq7 h_12 h_21 h_37 h_130 h_142 h_145 h_146 h_147 h_148 h_163 h_164 h_165 h_166 h_167; omega) | omega, by first | (clear ha2 hq0 hq1 hq2 hq3 hq4 hq5 hq8 h_1 h_2 h_3 h_4 h_5 h_6 h_7 h_8 h_9 h_10 h_11 h_46 h_65 h_66 h_116 h_117 h_118 h_119 h_120 h_121 h_122 h_123 h_124 h_125 h_126 h_127 h_128 h_129 h_131 h_144 hq6 hq7 h_12 h_21 h_37 h_130 h_142 h_145 h_146 h_147 h_148 h_163 h_164 h_165 h_166 h_167; omega) | omega, by first | (clear ha2 hq0 hq1 hq2 hq3 hq4 hq5 hq8 h_1 h_2 h_3 h_4 h_5 h_6 h_7 h_8 h_9 h_10 h_11 h_46 h_65 h_66 h_116 h_117 h_118 h_120 h_121 h_122 h_123 h_124 h_125 h_126 h_127 h_128 h_129 h_131 h_144 hq6 hq7 h_12 h_21 h_37 h_130 h_142 h_145 h_146 h_147 h_148 h_163 h_164 h_165 h_166 h_167; omega) | omega, by first | (clear ha2 hq0 hq2 hq3 hq4 hq5 hq8 h_1 h_2 h_3 h_4 h_5 h_6 h_7 h_8 h_9 h_10 h_11 h_46 h_65 h_66 h_116 h_117 h_118 h_119 h_122 h_123 h_124 h_125 h_126 h_127 h_128 h_129 h_131 h_144 hq6 hq7 h_12 h_21 h_37 h_130 h_142 h_145 h_146 h_147 h_148 h_163 h_164 h_165 h_166 h_167; omega) | omega⟩) (Or.inr (Or.inr ⟨by first | (clear ha2 hq0 hq1 hq2 hq3 hq4 hq5 hq8 h_1 h_2 h_3 h_4 h_5 h_6 h_7 h_8 h_9 h_10 h_11 h_46 h_65 h_66 h_116 h_117 h_118 h_119 h_120 h_121 h_122 h_124 h_125 h_126 h_127 h_128 h_129 h_131 h_144 hq6 hq7 h_12 h_21 h_37 h_130 h_142 h_145 h_146 h_147 h_148 h_163 h_164 h_165 h_166 h_167; omega) | omega, by first | (clear ha2 hq0 hq1 hq2 h_8 h_9 h_65 h_116 h_117 h_120 h_121 h_126; omega) | omega, by first | (clear ha2 hq0 hq1 hq2 hq3 hq4 hq5 hq8 h_1 h_2 h_3 h_4 h_5 h_6 h_7 h_8 h_9 h_10 h_11 h_65 h_66 h_116 h_117 h_118 h_120 h_121 h_122 h_123 h_124 h_125 h_126 h_127 h_128 h_129 h_131 h_144 hq6 hq7 h_12 h_21 h_37 h_130 h_142 h_145 h_146 h_147 h_148 h_163 h_164 h_165 h_166 h_167; omega) | omega, by first | (clear ha2 hq0 hq1 hq2 hq3 hq4 hq5 hq8 h_1 h_2 h_3 h_4 h_5 h_6 h_7 h_8 h_9 h_11 h_65 h_66 h_116 h_117 h_118 h_120 h_121 h_122 h_123 h_124 h_125 h_126 h_127 h_128 h_129 h_131 h_144 hq6 hq7 h_12 h_21 h_37 h_130 h_142 h_145 h_146 h_147 h_148 h_163 h_164 h_165 h_166 h_167; omega) | omega⟩)) (by first | (clear ha2 hq0 hq1 hq3 hq4 hq5 hq8 h_1 h_2 h_3 h_4 h_5 h_6 h_7 h_8 h_9 h_10 h_11 h_46 h_65 h_66 h_116 h_117 h_118 h_119 h_120 h_121 h_122 h_123 h_124 h_125 h_126 h_127 h_128 h_129 h_131 h_144 hq6 hq7 h_12 h_21 h_37 h_130 h_142 h_145 h_146 h_147 h_148 h_163 h_164 h_165 h_166 h_167; omega) | omega) (fun _ => ce_le hA_289 (by omega))
            · refine v_ic_ne_f (t := 73) rfl (by decide) (Decidable.not_not.mp h_167) ?_
              refine q_iconst rfl ?_
              refine q_goto (t := 117) rfl (by decide) ?_
              refine q_iret rfl rfl ?_
              refine bk_inl ?_
              refine q_istore_n rfl (by decide) ?_
              refine q_iload_n rfl rfl ?_
              refine q_iconst rfl ?_
              refine v_ic_ne_t (t := 136) rfl (by decide) (by decide) ?_
              refine q_aload_n rfl rfl ?_
              refine v_cv rfl rfl rfl rfl (by decide) ⟨⟨rfl, rfl⟩, by decide, rfl⟩ (Nat.le_of_ble_eq_true rfl) (Nat.le_of_ble_eq_true rfl) ?_
              refine q_aload_n rfl rfl ?_
              have kn_290 : Hid (c_132 41 5 = (-1)) := (hF_134 41 5 (fun h => absurd h.2 (ni rfl))).trans hro_hRt.2.1
              have kn_291 : Hid (c_137 41 5 = (-1)) := (hF_139 41 5 (fun h => absurd h.2 (ni rfl))).trans (hid kn_290)
              have kn_292 : Hid (c_149 41 5 = (-1)) := (hF_151 41 5 (fun h => absurd h.2 (ni rfl))).trans (hid kn_291)
              have kn_293 : Hid (c_154 41 5 = (-1)) := (hF_156 41 5 (fun h => absurd h.2 (ni rfl))).trans (hid kn_292)
              have kn_294 : Hid (c_159 41 5 = (-1)) := (hF_161 41 5 (fun h => absurd h.2 (ni rfl))).trans (hid kn_293)
              refine v_gi (z := 5) (v := (-1)) rfl rfl rfl (by decide) rfl rfl (hid kn_294) ?_
              refine q_iconst rfl ?_
              refine v_ic_ne_f (t := 12) rfl (by decide) (by decide) ?_
              refine q_iconst rfl ?_
              refine q_goto (t := 13) rfl (by decide) ?_
              refine v_zret rfl rfl (by decide) ?_
              refine bk_inl ?_
              refine v_if_ne_t (t := 144) rfl (by decide) (by decide) ?_
              refine q_aload_n rfl rfl ?_
              have kn_295 : Hid (c_159 41 3 = e1) := (hF_161 41 3 (fun h => absurd h.2 (ni rfl))).trans (hid kn_158)
              refine v_cv rfl rfl rfl rfl (by decide) ⟨⟨rfl, rfl⟩, by decide, rfl⟩ (Nat.le_of_ble_eq_true rfl) (Nat.le_of_ble_eq_true rfl) (f_159 (e1 := e1) (a9 := (nx F e1 p0)) (B := H) (L8 := (ln F e1 (nx F e1 p0))) hI_160 ((hid kn_295)) ((hz_162)) (fun j => ((hF_161 43 j (fun h => absurd h.1 (nn rfl))).trans ((hF_156 43 j (fun h => absurd h.1 (nn rfl))).trans ((hF_151 43 j (fun h => absurd h.1 (nn rfl))).trans ((hF_139 43 j (fun h => absurd h.1 (nn rfl))).trans (hF_134 43 j (fun h => absurd h.1 (nn rfl))))))).trans (hH j)) ((ln_tr hU (by first | (clear ha2 hq0 hq1 hq2 hq3 hq4 hq5 hq8 h_1 h_2 h_3 h_4 h_6 h_7 h_8 h_9 h_11 h_46 h_65 h_66 h_116 h_117 h_118 h_119 h_120 h_121 h_122 h_123 h_124 h_125 h_126 h_127 h_128 h_129 h_131 h_144 hq6 hq7 h_12 h_21 h_37 h_130 h_142 h_145 h_146 h_147 h_148 h_163 h_164 h_165 h_166; omega) | omega) (by first | (clear ha2 hq0 hq1 hq2 hq3 hq4 hq8 h_1 h_2 h_3 h_4 h_5 h_6 h_7 h_8 h_9 h_10 h_11 h_46 h_65 h_66 h_116 h_117 h_118 h_119 h_120 h_121 h_122 h_123 h_124 h_125 h_126 h_127 h_128 h_129 h_131 h_144 hq6 hq7 h_12 h_21 h_37 h_130 h_142 h_145 h_146 h_147 h_148 h_163 h_164 h_165 h_166; omega) | omega)).trans (rfl)) (fun c_296 hI_297 hF_298 hz_299 => ?_))
              refine bk_inl ?_
              refine q_aload_n rfl rfl ?_
              refine q_iconst rfl ?_
              refine q_iload_n rfl rfl ?_
              refine v_cv rfl rfl rfl rfl (by decide) ⟨⟨rfl, rfl⟩, by decide, rfl⟩ (Nat.le_of_ble_eq_true rfl) (Nat.le_of_ble_eq_true rfl) ?_
              refine q_aload_n rfl rfl ?_
              refine v_cv rfl rfl rfl rfl (by decide) ⟨⟨rfl, rfl⟩, by decide, rfl⟩ (Nat.le_of_ble_eq_true rfl) (Nat.le_of_ble_eq_true rfl) ?_
              refine q_aload_n rfl rfl ?_
              have kn_300 : Hid (c_296 41 5 = (-1)) := (hF_298 41 5 (fun h => absurd h.2 (ni rfl))).trans (hid kn_294)
              refine v_gi (z := 5) (v := (-1)) rfl rfl rfl (by decide) rfl rfl (hid kn_300) ?_
              refine q_iconst rfl ?_
              refine v_ic_ne_f (t := 12) rfl (by decide) (by decide) ?_
              refine q_iconst rfl ?_
              refine q_goto (t := 13) rfl (by decide) ?_
              refine v_zret rfl rfl (by decide) ?_
              refine bk_inl ?_
              refine v_if_ne_t (t := 8) rfl (by decide) (by decide) ?_
              refine q_aload_n rfl rfl ?_
              refine v_gr (t := 50) rfl rfl rfl (by decide) rfl ?_
              refine q_aload_n rfl rfl ?_
              have kn_301 : Hid (c_132 41 29 = n0) := (hF_134 41 29 (fun h => absurd h.2 (ni rfl))).trans (hr_n0)
              have kn_302 : Hid (c_137 41 29 = n0) := (hF_139 41 29 (fun h => absurd h.2 (ni rfl))).trans (hid kn_301)
              have kn_303 : Hid (c_149 41 29 = n0) := (hF_151 41 29 (fun h => absurd h.2 (ni rfl))).trans (hid kn_302)
              have kn_304 : Hid (c_154 41 29 = n0) := (hF_156 41 29 (fun h => absurd h.2 (ni rfl))).trans (hid kn_303)
              have kn_305 : Hid (c_159 41 29 = n0) := (hF_161 41 29 (fun h => absurd h.2 (ni rfl))).trans (hid kn_304)
              have kn_306 : Hid (c_296 41 29 = n0) := (hF_298 41 29 (fun h => absurd h.2 (ni rfl))).trans (hid kn_305)
              refine v_gi (z := 29) (v := n0) rfl rfl rfl (by decide) rfl rfl (hid kn_306) ?_
              refine q_iload_n rfl rfl ?_
              refine v_is rfl rfl (by decide) (by decide) (by omega) ?_
              refine q_aload_n rfl rfl ?_
              refine v_gr (t := 51) rfl rfl rfl (by decide) rfl ?_
              refine q_aload_n rfl rfl ?_
              refine v_gi (z := 29) (v := n0) rfl rfl rfl (by decide) rfl rfl ((up_c (nn rfl)).trans (hid kn_306)) ?_
              refine q_iload_n rfl rfl ?_
              refine v_is rfl rfl (by decide) (by decide) (by omega) ?_
              refine q_aload_n rfl rfl ?_
              refine q_dup rfl rfl ?_
              refine v_gi (z := 29) (v := n0) rfl rfl rfl (by decide) rfl rfl ((up_c (nn rfl)).trans ((up_c (nn rfl)).trans (hid kn_306))) ?_
              refine q_iconst rfl ?_
              refine v_iadd (v := n0 + 1) rfl rfl ?_
              refine v_pi (z := 29) rfl rfl rfl (by decide) rfl rfl rfl (by decide) ?_
              refine q_vret rfl rfl ?_
              refine bk_inl ?_
              refine q_vret rfl rfl ?_
              have hI_307 := iw_50 (j := n0) (v := 1) hI_297 ⟨by decide, by decide⟩
              have hI_308 := iw_51 (j := n0) (v := 4) hI_307 ⟨by decide, by decide⟩
              have hI_309 := iw_41_29 (v := n0 + 1) hI_308 ⟨by first | exact rgp_l (rg_eq hg_n0 h_6).1 (by decide) | omega, by first | (clear ha2 hq0 hq1 hq2 hq3 hq4 hq5 hq8 h_1 h_2 h_3 h_4 h_5 h_6 h_7 h_8 h_9 h_10 h_11 h_46 h_65 h_66 h_116 h_117 h_118 h_119 h_120 h_121 h_122 h_123 h_124 h_125 h_126 h_127 h_128 h_129 h_131 h_144 hq6 hq7 h_12 h_21 h_37 h_130 h_142 h_145 h_146 h_147 h_148 h_163 h_164 h_165 h_166; omega) | omega⟩
              have h_310 : (up (up (up c_296 50 n0 1) 51 n0 4) 41 29 (n0 + 1)) 41 5 = (-1) := ((up_n (by decide)).trans ((up_c (nn rfl)).trans ((up_c (nn rfl)).trans (hid kn_300))))
              have h_311 : (up (up (up c_296 50 n0 1) 51 n0 4) 41 29 (n0 + 1)) 41 4 = (ln F e1 (nx F e1 p0)) := ((up_n (by decide)).trans ((up_c (nn rfl)).trans ((up_c (nn rfl)).trans (hz_299))))
              have kn_312 : Hid (c_132 41 6 = c 41 6) := hF_134 41 6 (fun h => absurd h.2 (ni rfl))
              have kn_313 : Hid (c_137 41 6 = c 41 6) := (hF_139 41 6 (fun h => absurd h.2 (ni rfl))).trans (hid kn_312)
              have kn_314 : Hid (c_149 41 6 = c 41 6) := (hF_151 41 6 (fun h => absurd h.2 (ni rfl))).trans (hid kn_313)
              have kn_315 : Hid (c_154 41 6 = c 41 6) := (hF_156 41 6 (fun h => absurd h.2 (ni rfl))).trans (hid kn_314)
              have kn_316 : Hid (c_159 41 6 = c 41 6) := (hF_161 41 6 (fun h => absurd h.2 (ni rfl))).trans (hid kn_315)
              have kn_317 : Hid (c_296 41 6 = c 41 6) := (hF_298 41 6 (fun h => absurd h.2 (ni rfl))).trans (hid kn_316)
              have h_318 : (up (up (up c_296 50 n0 1) 51 n0 4) 41 29 (n0 + 1)) 41 6 = c 41 6 := ((up_n (by decide)).trans ((up_c (nn rfl)).trans ((up_c (nn rfl)).trans (hid kn_317))))
              have h_319 : (up (up (up c_296 50 n0 1) 51 n0 4) 41 29 (n0 + 1)) 41 29 = n0 + 1 := (up_e rfl)
              have kn_320 : Hid (c_132 41 7 = o0) := (hF_134 41 7 (fun h => absurd h.2 (ni rfl))).trans (hr_o0)
              have kn_321 : Hid (c_137 41 7 = o0) := (hF_139 41 7 (fun h => absurd h.2 (ni rfl))).trans (hid kn_320)
              have kn_322 : Hid (c_149 41 7 = o0) := (hF_151 41 7 (fun h => absurd h.2 (ni rfl))).trans (hid kn_321)
              have kn_323 : Hid (c_154 41 7 = o0) := (hF_156 41 7 (fun h => absurd h.2 (ni rfl))).trans (hid kn_322)
              have kn_324 : Hid (c_159 41 7 = o0) := (hF_161 41 7 (fun h => absurd h.2 (ni rfl))).trans (hid kn_323)
              have kn_325 : Hid (c_296 41 7 = o0) := (hF_298 41 7 (fun h => absurd h.2 (ni rfl))).trans (hid kn_324)
              have h_326 : (up (up (up c_296 50 n0 1) 51 n0 4) 41 29 (n0 + 1)) 41 7 = o0 := ((up_n (by decide)).trans ((up_c (nn rfl)).trans ((up_c (nn rfl)).trans (hid kn_325))))
              have h_327 : (up (up (up c_296 50 n0 1) 51 n0 4) 41 29 (n0 + 1)) 41 29 = n0 + 1 := (up_e rfl)
              have hA_328 : Ce (n0 + 1) ((up (up c_62 (A + 9) n0 ((wd1_0 F (nx F e1 p0) (ln F e1 (nx F e1 p0))) + 1000)) (A + 7) 5 (n0 + 1)) (A + 9)) ((up (up (up c_296 50 n0 1) 51 n0 4) 41 29 (n0 + 1)) 50) ((up (up (up c_296 50 n0 1) 51 n0 4) 41 29 (n0 + 1)) 51) := ce_w (i := n0) (v := (wd1_0 F (nx F e1 p0) (ln F e1 (nx F e1 p0))) + 1000) (w := 1) (o := 4) hr0 (by omega) ((up_c (pp rfl)).trans (up_e rfl)) ((up_c (nn rfl)).trans ((up_c (nn rfl)).trans (up_e rfl))) ((up_c (nn rfl)).trans (up_e rfl)) (fun j hj => (up_c (pp rfl)).trans ((up_n hj).trans ((hF_64 (A + 9) j (fun q => q.elim (fun h => absurd h.1 (np hA rfl rfl)) (fun q => q.elim (fun h => absurd h.1 (np hA rfl rfl)) (fun h => absurd h.1 (np hA rfl rfl))))).trans ((hF_36 (A + 9) j (fun h => absurd h.1 (np hA rfl rfl))).trans ((hF_26 (A + 9) j (fun h => absurd h.1 (np hA rfl rfl))).trans (hF_20 (A + 9) j (fun h => absurd h.1 (np hA rfl rfl)))))))) (fun j hj => (up_c (nn rfl)).trans ((up_c (nn rfl)).trans ((up_n hj).trans ((hF_298 50 j (fun h => absurd h.1 (nn rfl))).trans ((hF_161 50 j (fun h => absurd h.1 (nn rfl))).trans ((hF_156 50 j (fun h => absurd h.1 (nn rfl))).trans ((hF_151 50 j (fun h => absurd h.1 (nn rfl))).trans ((hF_139 50 j (fun h => absurd h.1 (nn rfl))).trans (hF_134 50 j (fun h => absurd h.1 (nn rfl))))))))))) (fun j hj => (up_c (nn rfl)).trans ((up_n hj).trans ((up_c (nn rfl)).trans ((hF_298 51 j (fun h => absurd h.1 (nn rfl))).trans ((hF_161 51 j (fun h => absurd h.1 (nn rfl))).trans ((hF_156 51 j (fun h => absurd h.1 (nn rfl))).trans ((hF_151 51 j (fun h => absurd h.1 (nn rfl))).trans ((hF_139 51 j (fun h => absurd h.1 (nn rfl))).trans (hF_134 51 j (fun h => absurd h.1 (nn rfl))))))))))) (cr_i1 ⟨by first | (clear ha2 hq0 hq1 hq2 hq3 hq4 hq5 h_1 h_2 h_3 h_4 h_5 h_6 h_7 h_8 h_9 h_10 h_11 h_46 h_65 h_66 h_116 h_117 h_118 h_119 h_120 h_121 h_122 h_123 h_124 h_125 h_126 h_127 h_128 h_129 h_131 h_144 hq6 hq7 h_12 h_21 h_37 h_130 h_142 h_145 h_146 h_147 h_148 h_163 h_164 h_165 h_166; omega) | omega, by first | (clear ha2 hq0 hq1 hq2 hq3 hq4 hq5 h_1 h_2 h_3 h_4 h_5 h_6 h_7 h_8 h_9 h_10 h_11 h_46 h_65 h_66 h_116 h_117 h_118 h_119 h_120 h_121 h_122 h_123 h_124 h_125 h_126 h_127 h_128 h_129 h_131 h_144 hq6 hq7 h_12 h_21 h_37 h_130 h_142 h_145 h_146 h_147 h_148 h_163 h_164 h_165 h_166; omega) | omega, by decide, by first | (clear ha2 hq0 hq1 hq2 hq3 hq4 hq5 h_1 h_2 h_3 h_4 h_5 h_6 h_7 h_8 h_9 h_10 h_11 h_46 h_65 h_116 h_117 h_118 h_119 h_120 h_121 h_122 h_123 h_124 h_125 h_126 h_127 h_128 h_129 h_131 h_144 hq6 hq7 h_12 h_21 h_37 h_130 h_142 h_147 h_148 h_163 h_164 h_165 h_166; omega) | omega⟩)
              have hA_329 : Ce (n0 + 1) (m9 (A + 9)) ((up (up (up c_296 50 n0 1) 51 n0 4) 41 29 (n0 + 1)) 50) ((up (up (up c_296 50 n0 1) 51 n0 4) 41 29 (n0 + 1)) 51) := ce_l hA_328 (fun j h1 h2 => wd_av hW (ck_p9 hA) (ck_p9 hA) (by decide) (a68 hA rfl) ⟨h1, by omega⟩ rfl (ir_p9 hI_114 hA j) (ir_p9 hJ9 hA j))
              exact K (up (up (up c_296 50 n0 1) 51 n0 4) 41 29 (n0 + 1))  hI_309 (fun a j hm => (up_b (Decidable.or_iff_not_imp_left.mpr (fun h1 h2 => hm (Or.inr (Or.inr (Or.inr (Or.inr (Or.inl ⟨Decidable.not_not.mp h1, h2⟩)))))))).trans ((up_b (Decidable.or_iff_not_imp_left.mpr (fun h1 h2 => hm (Or.inr (Or.inr (Or.inr (Or.inr (Or.inr (Or.inr (Decidable.not_not.mp h1)))))))))).trans ((up_b (Decidable.or_iff_not_imp_left.mpr (fun h1 h2 => hm (Or.inr (Or.inr (Or.inr (Or.inr (Or.inr (Or.inl (Decidable.not_not.mp h1)))))))))).trans ((hF_298 a j (fun h => hm (Or.inl h))).trans ((hF_161 a j (fun h => hm (Or.inl h))).trans ((hF_156 a j (fun h => hm (Or.inl h))).trans ((hF_151 a j (fun h => hm (Or.inl h))).trans ((hF_139 a j (fun h => hm (Or.inl h))).trans (hF_134 a j (fun h => hm (Or.inl h))))))))))) (rt_i1 ⟨by first | (clear ha2 hq0 hq1 hq2 hq3 hq4 hq5 hq8 h_1 h_2 h_3 h_4 h_5 h_6 h_7 h_8 h_9 h_10 h_11 h_46 h_65 h_66 h_118 h_119 h_120 h_121 h_122 h_123 h_124 h_125 h_126 h_127 h_128 h_129 h_131 h_144 hq6 hq7 h_12 h_21 h_37 h_130 h_142 h_145 h_146 h_147 h_148 h_163 h_164 h_165 h_166; omega) | omega, by first | (clear ha2 hq0 hq1 hq2 hq3 hq4 hq5 hq8 h_1 h_2 h_3 h_4 h_5 h_6 h_7 h_8 h_9 h_10 h_11 h_46 h_65 h_66 h_116 h_117 h_118 h_119 h_120 h_121 h_122 h_123 h_124 h_125 h_126 h_127 h_128 h_129 h_131 h_144 hq6 hq7 h_12 h_21 h_37 h_130 h_142 h_145 h_146 h_147 h_148 h_163 h_164 h_165 h_166; omega) | omega, by first | (clear ha2 hq0 hq1 hq2 hq3 hq4 hq5 hq8 h_1 h_2 h_3 h_4 h_5 h_6 h_7 h_8 h_9 h_10 h_11 h_46 h_65 h_66 h_116 h_117 h_118 h_120 h_121 h_122 h_123 h_124 h_125 h_126 h_127 h_128 h_129 h_131 h_144 hq6 hq7 h_12 h_21 h_37 h_130 h_142 h_145 h_146 h_147 h_148 h_163 h_164 h_165 h_166; omega) | omega, by first | (clear ha2 hq0 hq2 hq3 hq4 hq5 hq8 h_1 h_2 h_3 h_4 h_5 h_6 h_7 h_8 h_9 h_10 h_11 h_46 h_65 h_66 h_116 h_117 h_118 h_119 h_122 h_123 h_124 h_125 h_126 h_127 h_128 h_129 h_131 h_144 hq6 hq7 h_12 h_21 h_37 h_130 h_142 h_145 h_146 h_147 h_148 h_163 h_164 h_165 h_166; omega) | omega⟩) (Or.inr (Or.inr ⟨by first | (clear ha2 hq0 hq1 hq2 hq3 hq4 hq5 hq8 h_1 h_2 h_3 h_4 h_5 h_6 h_7 h_8 h_9 h_10 h_11 h_46 h_65 h_66 h_116 h_117 h_118 h_119 h_120 h_121 h_122 h_124 h_125 h_126 h_127 h_128 h_129 h_131 h_144 hq6 hq7 h_12 h_21 h_37 h_130 h_142 h_145 h_146 h_147 h_148 h_163 h_164 h_165 h_166; omega) | omega, by first | (clear ha2 hq0 hq1 hq2 h_8 h_9 h_65 h_116 h_117 h_120 h_121 h_126; omega) | omega, by first | (clear ha2 hq0 hq1 hq2 hq3 hq4 hq5 hq8 h_1 h_2 h_3 h_4 h_5 h_6 h_7 h_8 h_9 h_10 h_11 h_65 h_66 h_116 h_117 h_118 h_120 h_121 h_122 h_123 h_124 h_125 h_126 h_127 h_128 h_129 h_131 h_144 hq6 hq7 h_12 h_21 h_37 h_130 h_142 h_145 h_146 h_147 h_148 h_163 h_164 h_165 h_166; omega) | omega, by first | (clear ha2 hq0 hq1 hq2 hq3 hq4 hq5 hq8 h_1 h_2 h_3 h_4 h_5 h_6 h_7 h_8 h_9 h_11 h_65 h_66 h_116 h_117 h_118 h_120 h_121 h_122 h_123 h_124 h_125 h_126 h_127 h_128 h_129 h_131 h_144 hq6 hq7 h_12 h_21 h_37 h_130 h_142 h_145 h_146 h_147 h_148 h_163 h_164 h_165 h_166; omega) | omega⟩)) (by first | (clear ha2 hq0 hq1 hq3 hq4 hq5 hq8 h_1 h_2 h_3 h_4 h_5 h_6 h_7 h_8 h_9 h_10 h_11 h_46 h_65 h_66 h_116 h_117 h_118 h_119 h_120 h_121 h_122 h_123 h_124 h_125 h_126 h_127 h_128 h_129 h_131 h_144 hq6 hq7 h_12 h_21 h_37 h_130 h_142 h_145 h_146 h_147 h_148 h_163 h_164 h_165 h_166; omega) | omega) (fun _ => ce_le hA_329 (by omega))
          · refine v_ic_ne_f (t := 59) rfl (by decide) (Decidable.not_not.mp h_166) ?_
            refine q_iconst rfl ?_
            refine q_goto (t := 117) rfl (by decide) ?_
            refine q_iret rfl rfl ?_
            refine bk_inl ?_
            refine q_istore_n rfl (by decide) ?_
            refine q_iload_n rfl rfl ?_
            refine q_iconst rfl ?_
            refine v_ic_ne_t (t := 136) rfl (by decide) (by decide) ?_
            refine q_aload_n rfl rfl ?_
            refine v_cv rfl rfl rfl rfl (by decide) ⟨⟨rfl, rfl⟩, by decide, rfl⟩ (Nat.le_of_ble_eq_true rfl) (Nat.le_of_ble_eq_true rfl) ?_
            refine q_aload_n rfl rfl ?_
            have kn_330 : Hid (c_132 41 5 = (-1)) := (hF_134 41 5 (fun h => absurd h.2 (ni rfl))).trans hro_hRt.2.1
            have kn_331 : Hid (c_137 41 5 = (-1)) := (hF_139 41 5 (fun h => absurd h.2 (ni rfl))).trans (hid kn_330)
            have kn_332 : Hid (c_149 41 5 = (-1)) := (hF_151 41 5 (fun h => absurd h.2 (ni rfl))).trans (hid kn_331)
            have kn_333 : Hid (c_154 41 5 = (-1)) := (hF_156 41 5 (fun h => absurd h.2 (ni rfl))).trans (hid kn_332)
            have kn_334 : Hid (c_159 41 5 = (-1)) := (hF_161 41 5 (fun h => absurd h.2 (ni rfl))).trans (hid kn_333)
            refine v_gi (z := 5) (v := (-1)) rfl rfl rfl (by decide) rfl rfl (hid kn_334) ?_
            refine q_iconst rfl ?_
            refine v_ic_ne_f (t := 12) rfl (by decide) (by decide) ?_
            refine q_iconst rfl ?_
            refine q_goto (t := 13) rfl (by decide) ?_
            refine v_zret rfl rfl (by decide) ?_
            refine bk_inl ?_
            refine v_if_ne_t (t := 144) rfl (by decide) (by decide) ?_
            refine q_aload_n rfl rfl ?_
            have kn_335 : Hid (c_159 41 3 = e1) := (hF_161 41 3 (fun h => absurd h.2 (ni rfl))).trans (hid kn_158)
            refine v_cv rfl rfl rfl rfl (by decide) ⟨⟨rfl, rfl⟩, by decide, rfl⟩ (Nat.le_of_ble_eq_true rfl) (Nat.le_of_ble_eq_true rfl) (f_159 (e1 := e1) (a9 := (nx F e1 p0)) (B := H) (L8 := (ln F e1 (nx F e1 p0))) hI_160 ((hid kn_335)) ((hz_162)) (fun j => ((hF_161 43 j (fun h => absurd h.1 (nn rfl))).trans ((hF_156 43 j (fun h => absurd h.1 (nn rfl))).trans ((hF_151 43 j (fun h => absurd h.1 (nn rfl))).trans ((hF_139 43 j (fun h => absurd h.1 (nn rfl))).trans (hF_134 43 j (fun h => absurd h.1 (nn rfl))))))).trans (hH j)) ((ln_tr hU (by first | (clear ha2 hq0 hq1 hq2 hq3 hq4 hq5 hq8 h_1 h_2 h_3 h_4 h_6 h_7 h_8 h_9 h_11 h_46 h_65 h_66 h_116 h_117 h_118 h_119 h_120 h_121 h_122 h_123 h_124 h_125 h_126 h_127 h_128 h_129 h_131 h_144 hq6 hq7 h_12 h_21 h_37 h_130 h_142 h_145 h_146 h_147 h_148 h_163 h_164 h_165; omega) | omega) (by first | (clear ha2 hq0 hq1 hq2 hq3 hq4 hq8 h_1 h_2 h_3 h_4 h_5 h_6 h_7 h_8 h_9 h_10 h_11 h_46 h_65 h_66 h_116 h_117 h_118 h_119 h_120 h_121 h_122 h_123 h_124 h_125 h_126 h_127 h_128 h_129 h_131 h_144 hq6 hq7 h_12 h_21 h_37 h_130 h_142 h_145 h_146 h_147 h_148 h_163 h_164 h_165; omega) | omega)).trans (rfl)) (fun c_336 hI_337 hF_338 hz_339 => ?_))
            refine bk_inl ?_
            refine q_aload_n rfl rfl ?_
            refine q_iconst rfl ?_
            refine q_iload_n rfl rfl ?_
            refine v_cv rfl rfl rfl rfl (by decide) ⟨⟨rfl, rfl⟩, by decide, rfl⟩ (Nat.le_of_ble_eq_true rfl) (Nat.le_of_ble_eq_true rfl) ?_
            refine q_aload_n rfl rfl ?_
            refine v_cv rfl rfl rfl rfl (by decide) ⟨⟨rfl, rfl⟩, by decide, rfl⟩ (Nat.le_of_ble_eq_true rfl) (Nat.le_of_ble_eq_true rfl) ?_
            refine q_aload_n rfl rfl ?_
            have kn_340 : Hid (c_336 41 5 = (-1)) := (hF_338 41 5 (fun h => absurd h.2 (ni rfl))).trans (hid kn_334)
            refine v_gi (z := 5) (v := (-1)) rfl rfl rfl (by decide) rfl rfl (hid kn_340) ?_
            refine q_iconst rfl ?_
            refine v_ic_ne_f (t := 12) rfl (by decide) (by decide) ?_
            refine q_iconst rfl ?_
            refine q_goto (t := 13) rfl (by decide) ?_
            refine v_zret rfl rfl (by decide) ?_
            refine bk_inl ?_
            refine v_if_ne_t (t := 8) rfl (by decide) (by decide) ?_
            refine q_aload_n rfl rfl ?_
            refine v_gr (t := 50) rfl rfl rfl (by decide) rfl ?_
            refine q_aload_n rfl rfl ?_
            have kn_341 : Hid (c_132 41 29 = n0) := (hF_134 41 29 (fun h => absurd h.2 (ni rfl))).trans (hr_n0)
            have kn_342 : Hid (c_137 41 29 = n0) := (hF_139 41 29 (fun h => absurd h.2 (ni rfl))).trans (hid kn_341)
            have kn_343 : Hid (c_149 41 29 = n0) := (hF_151 41 29 (fun h => absurd h.2 (ni rfl))).trans (hid kn_342)
            have kn_344 : Hid (c_154 41 29 = n0) := (hF_156 41 29 (fun h => absurd h.2 (ni rfl))).trans (hid kn_343)
            have kn_345 : Hid (c_159 41 29 = n0) := (hF_161 41 29 (fun h => absurd h.2 (ni rfl))).trans (hid kn_344)
            have kn_346 : Hid (c_336 41 29 = n0) := (hF_338 41 29 (fun h => absurd h.2 (ni rfl))).trans (hid kn_345)
            refine v_gi (z := 29) (v := n0) rfl rfl rfl (by decide) rfl rfl (hid kn_346) ?_
            refine q_iload_n rfl rfl ?_
            refine v_is rfl rfl (by decide) (by decide) (by omega) ?_
            refine q_aload_n rfl rfl ?_
            refine v_gr (t := 51) rfl rfl rfl (by decide) rfl ?_
            refine q_aload_n rfl rfl ?_
            refine v_gi (z := 29) (v := n0) rfl rfl rfl (by decide) rfl rfl ((up_c (nn rfl)).trans (hid kn_346)) ?_
            refine q_iload_n rfl rfl ?_
            refine v_is rfl rfl (by decide) (by decide) (by omega) ?_
            refine q_aload_n rfl rfl ?_
            refine q_dup rfl rfl ?_
            refine v_gi (z := 29) (v := n0) rfl rfl rfl (by decide) rfl rfl ((up_c (nn rfl)).trans ((up_c (nn rfl)).trans (hid kn_346))) ?_
            refine q_iconst rfl ?_
            refine v_iadd (v := n0 + 1) rfl rfl ?_
            refine v_pi (z := 29) rfl rfl rfl (by decide) rfl rfl rfl (by decide) ?_
            refine q_vret rfl rfl ?_
            refine bk_inl ?_
            refine q_vret rfl rfl ?_
            have hI_347 := iw_50 (j := n0) (v := 1) hI_337 ⟨by decide, by decide⟩
            have hI_348 := iw_51 (j := n0) (v := 3) hI_347 ⟨by decide, by decide⟩
            have hI_349 := iw_41_29 (v := n0 + 1) hI_348 ⟨by first | exact rgp_l (rg_eq hg_n0 h_6).1 (by decide) | omega, by first | (clear ha2 hq0 hq1 hq2 hq3 hq4 hq5 hq8 h_1 h_2 h_3 h_4 h_5 h_6 h_7 h_8 h_9 h_10 h_11 h_46 h_65 h_66 h_116 h_117 h_118 h_119 h_120 h_121 h_122 h_123 h_124 h_125 h_126 h_127 h_128 h_129 h_131 h_144 hq6 hq7 h_12 h_21 h_37 h_130 h_142 h_145 h_146 h_147 h_148 h_163 h_164 h_165; omega) | omega⟩
            have h_350 : (up (up (up c_336 50 n0 1) 51 n0 3) 41 29 (n0 + 1)) 41 5 = (-1) := ((up_n (by decide)).trans ((up_c (nn rfl)).trans ((up_c (nn rfl)).trans (hid kn_340))))
            have h_351 : (up (up (up c_336 50 n0 1) 51 n0 3) 41 29 (n0 + 1)) 41 4 = (ln F e1 (nx F e1 p0)) := ((up_n (by decide)).trans ((up_c (nn rfl)).trans ((up_c (nn rfl)).trans (hz_339))))
            have kn_352 : Hid (c_132 41 6 = c 41 6) := hF_134 41 6 (fun h => absurd h.2 (ni rfl))
            have kn_353 : Hid (c_137 41 6 = c 41 6) := (hF_139 41 6 (fun h => absurd h.2 (ni rfl))).trans (hid kn_352)
            have kn_354 : Hid (c_149 41 6 = c 41 6) := (hF_151 41 6 (fun h => absurd h.2 (ni rfl))).trans (hid kn_353)
            have kn_355 : Hid (c_154 41 6 = c 41 6) := (hF_156 41 6 (fun h => absurd h.2 (ni rfl))).trans (hid kn_354)
            have kn_356 : Hid (c_159 41 6 = c 41 6) := (hF_161 41 6 (fun h => absurd h.2 (ni rfl))).trans (hid kn_355)
            have kn_357 : Hid (c_336 41 6 = c 41 6) := (hF_338 41 6 (fun h => absurd h.2 (ni rfl))).trans (hid kn_356)
            have h_358 : (up (up (up c_336 50 n0 1) 51 n0 3) 41 29 (n0 + 1)) 41 6 = c 41 6 := ((up_n (by decide)).trans ((up_c (nn rfl)).trans ((up_c (nn rfl)).trans (hid kn_357))))
            have h_359 : (up (up (up c_336 50 n0 1) 51 n0 3) 41 29 (n0 + 1)) 41 29 = n0 + 1 := (up_e rfl)
            have kn_360 : Hid (c_132 41 7 = o0) := (hF_134 41 7 (fun h => absurd h.2 (ni rfl))).trans (hr_o0)
            have kn_361 : Hid (c_137 41 7 = o0) := (hF_139 41 7 (fun h => absurd h.2 (ni rfl))).trans (hid kn_360)
            have kn_362 : Hid (c_149 41 7 = o0) := (hF_151 41 7 (fun h => absurd h.2 (ni rfl))).trans (hid kn_361)
            have kn_363 : Hid (c_154 41 7 = o0) := (hF_156 41 7 (fun h => absurd h.2 (ni rfl))).trans (hid kn_362)
            have kn_364 : Hid (c_159 41 7 = o0) := (hF_161 41 7 (fun h => absurd h.2 (ni rfl))).trans (hid kn_363)
            have kn_365 : Hid (c_336 41 7 = o0) := (hF_338 41 7 (fun h => absurd h.2 (ni rfl))).trans (hid kn_364)
            have h_366 : (up (up (up c_336 50 n0 1) 51 n0 3) 41 29 (n0 + 1)) 41 7 = o0 := ((up_n (by decide)).trans ((up_c (nn rfl)).trans ((up_c (nn rfl)).trans (hid kn_365))))
            have h_367 : (up (up (up c_336 50 n0 1) 51 n0 3) 41 29 (n0 + 1)) 41 29 = n0 + 1 := (up_e rfl)
            have hA_368 : Ce (n0 + 1) ((up (up c_62 (A + 9) n0 ((wd1_0 F (nx F e1 p0) (ln F e1 (nx F e1 p0))) + 1000)) (A + 7) 5 (n0 + 1)) (A + 9)) ((up (up (up c_336 50 n0 1) 51 n0 3) 41 29 (n0 + 1)) 50) ((up (up (up c_336 50 n0 1) 51 n0 3) 41 29 (n0 + 1)) 51) := ce_w (i := n0) (v := (wd1_0 F (nx F e1 p0) (ln F e1 (nx F e1 p0))) + 1000) (w := 1) (o := 3) hr0 (by omega) ((up_c (pp rfl)).trans (up_e rfl)) ((up_c (nn rfl)).trans ((up_c (nn rfl)).trans (up_e rfl))) ((up_c (nn rfl)).trans (up_e rfl)) (fun j hj => (up_c (pp rfl)).trans ((up_n hj).trans ((hF_64 (A + 9) j (fun q => q.elim (fun h => absurd h.1 (np hA rfl rfl)) (fun q => q.elim (fun h => absurd h.1 (np hA rfl rfl)) (fun h => absurd h.1 (np hA rfl rfl))))).trans ((hF_36 (A + 9) j (fun h => absurd h.1 (np hA rfl rfl))).trans ((hF_26 (A + 9) j (fun h => absurd h.1 (np hA rfl rfl))).trans (hF_20 (A + 9) j (fun h => absurd h.1 (np hA rfl rfl)))))))) (fun j hj => (up_c (nn rfl)).trans ((up_c (nn rfl)).trans ((up_n hj).trans ((hF_338 50 j (fun h => absurd h.1 (nn rfl))).trans ((hF_161 50 j (fun h => absurd h.1 (nn rfl))).trans ((hF_156 50 j (fun h => absurd h.1 (nn rfl))).trans ((hF_151 50 j (fun h => absurd h.1 (nn rfl))).trans ((hF_139 50 j (fun h => absurd h.1 (nn rfl))).trans (hF_134 50 j (fun h => absurd h.1 (nn rfl))))))))))) (fun j hj => (up_c (nn rfl)).trans ((up_n hj).trans ((up_c (nn rfl)).trans ((hF_338 51 j (fun h => absurd h.1 (nn rfl))).trans ((hF_161 51 j (fun h => absurd h.1 (nn rfl))).trans ((hF_156 51 j (fun h => absurd h.1 (nn rfl))).trans ((hF_151 51 j (fun h => absurd h.1 (nn rfl))).trans ((hF_139 51 j (fun h => absurd h.1 (nn rfl))).trans (hF_134 51 j (fun h => absurd h.1 (nn rfl))))))))))) (cr_i1 ⟨by first | (clear ha2 hq0 hq1 hq2 hq3 hq4 hq5 h_1 h_2 h_3 h_4 h_5 h_6 h_7 h_8 h_9 h_10 h_11 h_46 h_65 h_66 h_116 h_117 h_118 h_119 h_120 h_121 h_122 h_123 h_124 h_125 h_126 h_127 h_128 h_129 h_131 h_144 hq6 hq7 h_12 h_21 h_37 h_130 h_142 h_145 h_146 h_147 h_148 h_163 h_164 h_165; omega) | omega, by first | (clear ha2 hq0 hq1 hq2 hq3 hq4 hq5 h_1 h_2 h_3 h_4 h_5 h_6 h_7 h_8 h_9 h_10 h_11 h_46 h_65 h_66 h_116 h_117 h_118 h_119 h_120 h_121 h_122 h_123 h_124 h_125 h_126 h_127 h_128 h_129 h_131 h_144 hq6 hq7 h_12 h_21 h_37 h_130 h_142 h_145 h_146 h_147 h_148 h_163 h_164 h_165; omega) | omega, by decide, by first | (clear ha2 hq0 hq1 hq2 hq3 hq4 hq5 h_1 h_2 h_3 h_4 h_5 h_6 h_7 h_8 h_9 h_10 h_11 h_46 h_65 h_116 h_117 h_118 h_119 h_120 h_121 h_122 h_123 h_124 h_125 h_126 h_127 h_128 h_129 h_131 h_144 hq6 hq7 h_12 h_21 h_37 h_130 h_142 h_147 h_148 h_163 h_164 h_165; omega) | omega⟩)
            have hA_369 : Ce (n0 + 1) (m9 (A + 9)) ((up (up (up c_336 50 n0 1) 51 n0 3) 41 29 (n0 + 1)) 50) ((up (up (up c_336 50 n0 1) 51 n0 3) 41 29 (n0 + 1)) 51) := ce_l hA_368 (fun j h1 h2 => wd_av hW (ck_p9 hA) (ck_p9 hA) (by decide) (a68 hA rfl) ⟨h1, by omega⟩ rfl (ir_p9 hI_114 hA j) (ir_p9 hJ9 hA j))
            exact K (up (up (up c_336 50 n0 1) 51 n0 3) 41 29 (n0 + 1))  hI_349 (fun a j hm => (up_b (Decidable.or_iff_not_imp_left.mpr (fun h1 h2 => hm (Or.inr (Or.inr (Or.inr (Or.inr (Or.inl ⟨Decidable.not_not.mp h1, h2⟩)))))))).trans ((up_b (Decidable.or_iff_not_imp_left.mpr (fun h1 h2 => hm (Or.inr (Or.inr (Or.inr (Or.inr (Or.inr (Or.inr (Decidable.not_not.mp h1)))))))))).trans ((up_b (Decidable.or_iff_not_imp_left.mpr (fun h1 h2 => hm (Or.inr (Or.inr (Or.inr (Or.inr (Or.inr (Or.inl (Decidable.not_not.mp h1)))))))))).trans ((hF_338 a j (fun h => hm (Or.inl h))).trans ((hF_161 a j (fun h => hm (Or.inl h))).trans ((hF_156 a j (fun h => hm (Or.inl h))).trans ((hF_151 a j (fun h => hm (Or.inl h))).trans ((hF_139 a j (fun h => hm (Or.inl h))).trans (hF_134 a j (fun h => hm (Or.inl h))))))))))) (rt_i1 ⟨by first | (clear ha2 hq0 hq1 hq2 hq3 hq4 hq5 hq8 h_1 h_2 h_3 h_4 h_5 h_6 h_7 h_8 h_9 h_10 h_11 h_46 h_65 h_66 h_118 h_119 h_120 h_121 h_122 h_123 h_124 h_125 h_126 h_127 h_128 h_129 h_131 h_144 hq6 hq7 h_12 h_21 h_37 h_130 h_142 h_145 h_146 h_147 h_148 h_163 h_164 h_165; omega) | omega, by first | (clear ha2 hq0 hq1 hq2 hq3 hq4 hq5 hq8 h_1 h_2 h_3 h_4 h_5 h_6 h_7 h_8 h_9 h_10 h_11 h_46 h_65 h_66 h_116 h_117 h_118 h_119 h_120 h_121 h_122 h_123 h_124 h_125 h_126 h_127 h_128 h_129 h_131 h_144 hq6 hq7 h_12 h_21 h_37 h_130 h_142 h_145 h_146 h_147 h_148 h_163 h_164 h_165; omega) | omega, by first | (clear ha2 hq0 hq1 hq2 hq3 hq4 hq5 hq8 h_1 h_2 h_3 h_4 h_5 h_6 h_7 h_8 h_9 h_10 h_11 h_46 h_65 h_66 h_116 h_117 h_118 h_120 h_121 h_122 h_123 h_124 h_125 h_126 h_127 h_128 h_129 h_131 h_144 hq6 hq7 h_12 h_21 h_37 h_130 h_142 h_145 h_146 h_147 h_148 h_163 h_164 h_165; omega) | omega, by first | (clear ha2 hq0 hq2 hq3 hq4 hq5 hq8 h_1 h_2 h_3 h_4 h_5 h_6 h_7 h_8 h_9 h_10 h_11 h_46 h_65 h_66 h_116 h_117 h_118 h_119 h_122 h_123 h_124 h_125 h_126 h_127 h_128 h_129 h_131 h_144 hq6 hq7 h_12 h_21 h_37 h_130 h_142 h_145 h_146 h_147 h_148 h_163 h_164 h_165; omega) | omega⟩) (Or.inr (Or.inr ⟨by first | (clear ha2 hq0 hq1 hq2 hq3 hq4 hq5 hq8 h_1 h_2 h_3 h_4 h_5 h_6 h_7 h_8 h_9 h_10 h_11 h_46 h_65 h_66 h_116 h_117 h_118 h_119 h_120 h_121 h_122 h_124 h_125 h_126 h_127 h_128 h_129 h_131 h_144 hq6 hq7 h_12 h_21 h_37 h_130 h_142 h_145 h_146 h_147 h_148 h_163 h_164 h_165; omega) | omega, by first | (clear ha2 hq0 hq1 hq2 h_8 h_9 h_65 h_116 h_117 h_120 h_121 h_126; omega) | omega, by first | (clear ha2 hq0 hq1 hq2 hq3 hq4 hq5 hq8 h_1 h_2 h_3 h_4 h_5 h_6 h_7 h_8 h_9 h_10 h_11 h_65 h_66 h_116 h_117 h_118 h_120 h_121 h_122 h_123 h_124 h_125 h_126 h_127 h_128 h_129 h_131 h_144 hq6 hq7 h_12 h_21 h_37 h_130 h_142 h_145 h_146 h_147 h_148 h_163 h_164 h_165; omega) | omega, by first | (clear ha2 hq0 hq1 hq2 hq3 hq4 hq5 hq8 h_1 h_2 h_3 h_4 h_5 h_6 h_7 h_8 h_9 h_11 h_65 h_66 h_116 h_117 h_118 h_120 h_121 h_122 h_123 h_124 h_125 h_126 h_127 h_128 h_129 h_131 h_144 hq6 hq7 h_12 h_21 h_37 h_130 h_142 h_145 h_146 h_147 h_148 h_163 h_164 h_165; omega) | omega⟩)) (by first | (clear ha2 hq0 hq1 hq3 hq4 hq5 hq8 h_1 h_2 h_3 h_4 h_5 h_6 h_7 h_8 h_9 h_10 h_11 h_46 h_65 h_66 h_116 h_117 h_118 h_119 h_120 h_121 h_122 h_123 h_124 h_125 h_126 h_127 h_128 h_129 h_131 h_144 hq6 hq7 h_12 h_21 h_37 h_130 h_142 h_145 h_146 h_147 h_148 h_163 h_164 h_165; omega) | omega) (fun _ => ce_le hA_369 (by omega))
        · refine v_ic_ne_f (t := 45) rfl (by decide) (Decidable.not_not.mp h_165) ?_
          refine q_iconst rfl ?_
          refine q_goto (t := 117) rfl (by decide) ?_
          refine q_iret rfl rfl ?_
          refine bk_inl ?_
          refine q_istore_n rfl (by decide) ?_
          refine q_iload_n rfl rfl ?_
          refine q_iconst rfl ?_
          refine v_ic_ne_t (t := 136) rfl (by decide) (by decide) ?_
          refine q_aload_n rfl rfl ?_
          refine v_cv rfl rfl rfl rfl (by decide) ⟨⟨rfl, rfl⟩, by decide, rfl⟩ (Nat.le_of_ble_eq_true rfl) (Nat.le_of_ble_eq_true rfl) ?_
          refine q_aload_n rfl rfl ?_
          have kn_370 : Hid (c_132 41 5 = (-1)) := (hF_134 41 5 (fun h => absurd h.2 (ni rfl))).trans hro_hRt.2.1
          have kn_371 : Hid (c_137 41 5 = (-1)) := (hF_139 41 5 (fun h => absurd h.2 (ni rfl))).trans (hid kn_370)
          have kn_372 : Hid (c_149 41 5 = (-1)) := (hF_151 41 5 (fun h => absurd h.2 (ni rfl))).trans (hid kn_371)
          have kn_373 : Hid (c_154 41 5 = (-1)) := (hF_156 41 5 (fun h => absurd h.2 (ni rfl))).trans (hid kn_372)
          have kn_374 : Hid (c_159 41 5 = (-1)) := (hF_161 41 5 (fun h => absurd h.2 (ni rfl))).trans (hid kn_373)
          refine v_gi (z := 5) (v := (-1)) rfl rfl rfl (by decide) rfl rfl (hid kn_374) ?_
          refine q_iconst rfl ?_
          refine v_ic_ne_f (t := 12) rfl (by decide) (by decide) ?_
          refine q_iconst rfl ?_
          refine q_goto (t := 13) rfl (by decide) ?_
          refine v_zret rfl rfl (by decide) ?_
          refine bk_inl ?_
          refine v_if_ne_t (t := 144) rfl (by decide) (by decide) ?_
          refine q_aload_n rfl rfl ?_
          have kn_375 : Hid (c_159 41 3 = e1) := (hF_161 41 3 (fun h => absurd h.2 (ni rfl))).trans (hid kn_158)
          refine v_cv rfl rfl rfl rfl (by decide) ⟨⟨rfl, rfl⟩, by decide, rfl⟩ (Nat.le_of_ble_eq_true rfl) (Nat.le_of_ble_eq_true rfl) (f_159 (e1 := e1) (a9 := (nx F e1 p0)) (B := H) (L8 := (ln F e1 (nx F e1 p0))) hI_160 ((hid kn_375)) ((hz_162)) (fun j => ((hF_161 43 j (fun h => absurd h.1 (nn rfl))).trans ((hF_156 43 j (fun h => absurd h.1 (nn rfl))).trans ((hF_151 43 j (fun h => absurd h.1 (nn rfl))).trans ((hF_139 43 j (fun h => absurd h.1 (nn rfl))).trans (hF_134 43 j (fun h => absurd h.1 (nn rfl))))))).trans (hH j)) ((ln_tr hU (by first | (clear ha2 hq0 hq1 hq2 hq3 hq4 hq5 hq8 h_1 h_2 h_3 h_4 h_6 h_7 h_8 h_9 h_11 h_46 h_65 h_66 h_116 h_117 h_118 h_119 h_120 h_121 h_122 h_123 h_124 h_125 h_126 h_127 h_128 h_129 h_131 h_144 hq6 hq7 h_12 h_21 h_37 h_130 h_142 h_145 h_146 h_147 h_148 h_163 h_164; omega) | omega) (by first | (clear ha2 hq0 hq1 hq2 hq3 hq4 hq8 h_1 h_2 h_3 h_4 h_5 h_6 h_7 h_8 h_9 h_10 h_11 h_46 h_65 h_66 h_116 h_117 h_118 h_119 h_120 h_121 h_122 h_123 h_124 h_125 h_126 h_127 h_128 h_129 h_131 h_144 hq6 hq7 h_12 h_21 h_37 h_130 h_142 h_145 h_146 h_147 h_148 h_163 h_164; omega) | omega)).trans (rfl)) (fun c_376 hI_377 hF_378 hz_379 => ?_))
          refine bk_inl ?_
          refine q_aload_n rfl rfl ?_
          refine q_iconst rfl ?_
          refine q_iload_n rfl rfl ?_
          refine v_cv rfl rfl rfl rfl (by decide) ⟨⟨rfl, rfl⟩, by decide, rfl⟩ (Nat.le_of_ble_eq_true rfl) (Nat.le_of_ble_eq_true rfl) ?_
          refine q_aload_n rfl rfl ?_
          refine v_cv rfl rfl rfl rfl (by decide) ⟨⟨rfl, rfl⟩, by decide, rfl⟩ (Nat.le_of_ble_eq_true rfl) (Nat.le_of_ble_eq_true rfl) ?_
          refine q_aload_n rfl rfl ?_
          have kn_380 : Hid (c_376 41 5 = (-1)) := (hF_378 41 5 (fun h => absurd h.2 (ni rfl))).trans (hid kn_374)
          refine v_gi (z := 5) (v := (-1)) rfl rfl rfl (by decide) rfl rfl (hid kn_380) ?_
          refine q_iconst rfl ?_
          refine v_ic_ne_f (t := 12) rfl (by decide) (by decide) ?_
          refine q_iconst rfl ?_
          refine q_goto (t := 13) rfl (by decide) ?_
          refine v_zret rfl rfl (by decide) ?_
          refine bk_inl ?_
          refine v_if_ne_t (t := 8) rfl (by decide) (by decide) ?_
          refine q_aload_n rfl rfl ?_
          refine v_gr (t := 50) rfl rfl rfl (by decide) rfl ?_
          refine q_aload_n rfl rfl ?_
          have kn_381 : Hid (c_132 41 29 = n0) := (hF_134 41 29 (fun h => absurd h.2 (ni rfl))).trans (hr_n0)
          have kn_382 : Hid (c_137 41 29 = n0) := (hF_139 41 29 (fun h => absurd h.2 (ni rfl))).trans (hid kn_381)
          have kn_383 : Hid (c_149 41 29 = n0) := (hF_151 41 29 (fun h => absurd h.2 (ni rfl))).trans (hid kn_382)
          have kn_384 : Hid (c_154 41 29 = n0) := (hF_156 41 29 (fun h => absurd h.2 (ni rfl))).trans (hid kn_383)
          have kn_385 : Hid (c_159 41 29 = n0) := (hF_161 41 29 (fun h => absurd h.2 (ni rfl))).trans (hid kn_384)
          have kn_386 : Hid (c_376 41 29 = n0) := (hF_378 41 29 (fun h => absurd h.2 (ni rfl))).trans (hid kn_385)
          refine v_gi (z := 29) (v := n0) rfl rfl rfl (by decide) rfl rfl (hid kn_386) ?_
          refine q_iload_n rfl rfl ?_
          refine v_is rfl rfl (by decide) (by decide) (by omega) ?_
          refine q_aload_n rfl rfl ?_
          refine v_gr (t := 51) rfl rfl rfl (by decide) rfl ?_
          refine q_aload_n rfl rfl ?_
          refine v_gi (z := 29) (v := n0) rfl rfl rfl (by decide) rfl rfl ((up_c (nn rfl)).trans (hid kn_386)) ?_
          refine q_iload_n rfl rfl ?_
          refine v_is rfl rfl (by decide) (by decide) (by omega) ?_
          refine q_aload_n rfl rfl ?_
          refine q_dup rfl rfl ?_
          refine v_gi (z := 29) (v := n0) rfl rfl rfl (by decide) rfl rfl ((up_c (nn rfl)).trans ((up_c (nn rfl)).trans (hid kn_386))) ?_
          refine q_iconst rfl ?_
          refine v_iadd (v := n0 + 1) rfl rfl ?_
          refine v_pi (z := 29) rfl rfl rfl (by decide) rfl rfl rfl (by decide) ?_
          refine q_vret rfl rfl ?_
          refine bk_inl ?_
          refine q_vret rfl rfl ?_
          have hI_387 := iw_50 (j := n0) (v := 1) hI_377 ⟨by decide, by decide⟩
          have hI_388 := iw_51 (j := n0) (v := 2) hI_387 ⟨by decide, by decide⟩
          have hI_389 := iw_41_29 (v := n0 + 1) hI_388 ⟨by first | exact rgp_l (rg_eq hg_n0 h_6).1 (by decide) | omega, by first | (clear ha2 hq0 hq1 hq2 hq3 hq4 hq5 hq8 h_1 h_2 h_3 h_4 h_5 h_6 h_7 h_8 h_9 h_10 h_11 h_46 h_65 h_66 h_116 h_117 h_118 h_119 h_120 h_121 h_122 h_123 h_124 h_125 h_126 h_127 h_128 h_129 h_131 h_144 hq6 hq7 h_12 h_21 h_37 h_130 h_142 h_145 h_146 h_147 h_148 h_163 h_164; omega) | omega⟩
          have h_390 : (up (up (up c_376 50 n0 1) 51 n0 2) 41 29 (n0 + 1)) 41 5 = (-1) := ((up_n (by decide)).trans ((up_c (nn rfl)).trans ((up_c (nn rfl)).trans (hid kn_380))))
          have h_391 : (up (up (up c_376 50 n0 1) 51 n0 2) 41 29 (n0 + 1)) 41 4 = (ln F e1 (nx F e1 p0)) := ((up_n (by decide)).trans ((up_c (nn rfl)).trans ((up_c (nn rfl)).trans (hz_379))))
          have kn_392 : Hid (c_132 41 6 = c 41 6) := hF_134 41 6 (fun h => absurd h.2 (ni rfl))
          have kn_393 : Hid (c_137 41 6 = c 41 6) := (hF_139 41 6 (fun h => absurd h.2 (ni rfl))).trans (hid kn_392)
          have kn_394 : Hid (c_149 41 6 = c 41 6) := (hF_151 41 6 (fun h => absurd h.2 (ni rfl))).trans (hid kn_393)
          have kn_395 : Hid (c_154 41 6 = c 41 6) := (hF_156 41 6 (fun h => absurd h.2 (ni rfl))).trans (hid kn_394)
          have kn_396 : Hid (c_159 41 6 = c 41 6) := (hF_161 41 6 (fun h => absurd h.2 (ni rfl))).trans (hid kn_395)
          have kn_397 : Hid (c_376 41 6 = c 41 6) := (hF_378 41 6 (fun h => absurd h.2 (ni rfl))).trans (hid kn_396)
          have h_398 : (up (up (up c_376 50 n0 1) 51 n0 2) 41 29 (n0 + 1)) 41 6 = c 41 6 := ((up_n (by decide)).trans ((up_c (nn rfl)).trans ((up_c (nn rfl)).trans (hid kn_397))))
          have h_399 : (up (up (up c_376 50 n0 1) 51 n0 2) 41 29 (n0 + 1)) 41 29 = n0 + 1 := (up_e rfl)
          have kn_400 : Hid (c_132 41 7 = o0) := (hF_134 41 7 (fun h => absurd h.2 (ni rfl))).trans (hr_o0)
          have kn_401 : Hid (c_137 41 7 = o0) := (hF_139 41 7 (fun h => absurd h.2 (ni rfl))).trans (hid kn_400)
          have kn_402 : Hid (c_149 41 7 = o0) := (hF_151 41 7 (fun h => absurd h.2 (ni rfl))).trans (hid kn_401)
          have kn_403 : Hid (c_154 41 7 = o0) := (hF_156 41 7 (fun h => absurd h.2 (ni rfl))).trans (hid kn_402)
          have kn_404 : Hid (c_159 41 7 = o0) := (hF_161 41 7 (fun h => absurd h.2 (ni rfl))).trans (hid kn_403)
          have kn_405 : Hid (c_376 41 7 = o0) := (hF_378 41 7 (fun h => absurd h.2 (ni rfl))).trans (hid kn_404)
          have h_406 : (up (up (up c_376 50 n0 1) 51 n0 2) 41 29 (n0 + 1)) 41 7 = o0 := ((up_n (by decide)).trans ((up_c (nn rfl)).trans ((up_c (nn rfl)).trans (hid kn_405))))
          have h_407 : (up (up (up c_376 50 n0 1) 51 n0 2) 41 29 (n0 + 1)) 41 29 = n0 + 1 := (up_e rfl)
          have hA_408 : Ce (n0 + 1) ((up (up c_62 (A + 9) n0 ((wd1_0 F (nx F e1 p0) (ln F e1 (nx F e1 p0))) + 1000)) (A + 7) 5 (n0 + 1)) (A + 9)) ((up (up (up c_376 50 n0 1) 51 n0 2) 41 29 (n0 + 1)) 50) ((up (up (up c_376 50 n0 1) 51 n0 2) 41 29 (n0 + 1)) 51) := ce_w (i := n0) (v := (wd1_0 F (nx F e1 p0) (ln F e1 (nx F e1 p0))) + 1000) (w := 1) (o := 2) hr0 (by omega) ((up_c (pp rfl)).trans (up_e rfl)) ((up_c (nn rfl)).trans ((up_c (nn rfl)).trans (up_e rfl))) ((up_c (nn rfl)).trans (up_e rfl)) (fun j hj => (up_c (pp rfl)).trans ((up_n hj).trans ((hF_64 (A + 9) j (fun q => q.elim (fun h => absurd h.1 (np hA rfl rfl)) (fun q => q.elim (fun h => absurd h.1 (np hA rfl rfl)) (fun h => absurd h.1 (np hA rfl rfl))))).trans ((hF_36 (A + 9) j (fun h => absurd h.1 (np hA rfl rfl))).trans ((hF_26 (A + 9) j (fun h => absurd h.1 (np hA rfl rfl))).trans (hF_20 (A + 9) j (fun h => absurd h.1 (np hA rfl rfl)))))))) (fun j hj => (up_c (nn rfl)).trans ((up_c (nn rfl)).trans ((up_n hj).trans ((hF_378 50 j (fun h => absurd h.1 (nn rfl))).trans ((hF_161 50 j (fun h => absurd h.1 (nn rfl))).trans ((hF_156 50 j (fun h => absurd h.1 (nn rfl))).trans ((hF_151 50 j (fun h => absurd h.1 (nn rfl))).trans ((hF_139 50 j (fun h => absurd h.1 (nn rfl))).trans (hF_134 50 j (fun h => absurd h.1 (nn rfl))))))))))) (fun j hj => (up_c (nn rfl)).trans ((up_n hj).trans ((up_c (nn rfl)).trans ((hF_378 51 j (fun h => absurd h.1 (nn rfl))).trans ((hF_161 51 j (fun h => absurd h.1 (nn rfl))).trans ((hF_156 51 j (fun h => absurd h.1 (nn rfl))).trans ((hF_151 51 j (fun h => absurd h.1 (nn rfl))).trans ((hF_139 51 j (fun h => absurd h.1 (nn rfl))).trans (hF_134 51 j (fun h => absurd h.1 (nn rfl))))))))))) (cr_i1 ⟨by first | (clear ha2 hq0 hq1 hq2 hq3 hq4 hq5 h_1 h_2 h_3 h_4 h_5 h_6 h_7 h_8 h_9 h_10 h_11 h_46 h_65 h_66 h_116 h_117 h_118 h_119 h_120 h_121 h_122 h_123 h_124 h_125 h_126 h_127 h_128 h_129 h_131 h_144 hq6 hq7 h_12 h_21 h_37 h_130 h_142 h_145 h_146 h_147 h_148 h_163 h_164; omega) | omega, by first | (clear ha2 hq0 hq1 hq2 hq3 hq4 hq5 h_1 h_2 h_3 h_4 h_5 h_6 h_7 h_8 h_9 h_10 h_11 h_46 h_65 h_66 h_116 h_117 h_118 h_119 h_120 h_121 h_122 h_123 h_124 h_125 h_126 h_127 h_128 h_129 h_131 h_144 hq6 hq7 h_12 h_21 h_37 h_130 h_142 h_145 h_146 h_147 h_148 h_163 h_164; omega) | omega, by decide, by first | (clear ha2 hq0 hq1 hq2 hq3 hq4 hq5 h_1 h_2 h_3 h_4 h_5 h_6 h_7 h_8 h_9 h_10 h_11 h_46 h_65 h_116 h_117 h_118 h_119 h_120 h_121 h_122 h_123 h_124 h_125 h_126 h_127 h_128 h_129 h_131 h_144 hq6 hq7 h_12 h_21 h_37 h_130 h_142 h_147 h_148 h_163 h_164; omega) | omega⟩)
          have hA_409 : Ce (n0 + 1) (m9 (A + 9)) ((up (up (up c_376 50 n0 1) 51 n0 2) 41 29 (n0 + 1)) 50) ((up (up (up c_376 50 n0 1) 51 n0 2) 41 29 (n0 + 1)) 51) := ce_l hA_408 (fun j h1 h2 => wd_av hW (ck_p9 hA) (ck_p9 hA) (by decide) (a68 hA rfl) ⟨h1, by omega⟩ rfl (ir_p9 hI_114 hA j) (ir_p9 hJ9 hA j))
          exact K (up (up (up c_376 50 n0 1) 51 n0 2) 41 29 (n0 + 1))  hI_389 (fun a j hm => (up_b (Decidable.or_iff_not_imp_left.mpr (fun h1 h2 => hm (Or.inr (Or.inr (Or.inr (Or.inr (Or.inl ⟨Decidable.not_not.mp h1, h2⟩)))))))).trans ((up_b (Decidable.or_iff_not_imp_left.mpr (fun h1 h2 => hm (Or.inr (Or.inr (Or.inr (Or.inr (Or.inr (Or.inr (Decidable.not_not.mp h1)))))))))).trans ((up_b (Decidable.or_iff_not_imp_left.mpr (fun h1 h2 => hm (Or.inr (Or.inr (Or.inr (Or.inr (Or.inr (Or.inl (Decidable.not_not.mp h1)))))))))).trans ((hF_378 a j (fun h => hm (Or.inl h))).trans ((hF_161 a j (fun h => hm (Or.inl h))).trans ((hF_156 a j (fun h => hm (Or.inl h))).trans ((hF_151 a j (fun h => hm (Or.inl h))).trans ((hF_139 a j (fun h => hm (Or.inl h))).trans (hF_134 a j (fun h => hm (Or.inl h))))))))))) (rt_i1 ⟨by first | (clear ha2 hq0 hq1 hq2 hq3 hq4 hq5 hq8 h_1 h_2 h_3 h_4 h_5 h_6 h_7 h_8 h_9 h_10 h_11 h_46 h_65 h_66 h_118 h_119 h_120 h_121 h_122 h_123 h_124 h_125 h_126 h_127 h_128 h_129 h_131 h_144 hq6 hq7 h_12 h_21 h_37 h_130 h_142 h_145 h_146 h_147 h_148 h_163 h_164; omega) | omega, by first | (clear ha2 hq0 hq1 hq2 hq3 hq4 hq5 hq8 h_1 h_2 h_3 h_4 h_5 h_6 h_7 h_8 h_9 h_10 h_11 h_46 h_65 h_66 h_116 h_117 h_118 h_119 h_120 h_121 h_122 h_123 h_124 h_125 h_126 h_127 h_128 h_129 h_131 h_144 hq6 hq7 h_12 h_21 h_37 h_130 h_142 h_145 h_146 h_147 h_148 h_163 h_164; omega) | omega, by first | (clear ha2 hq0 hq1 hq2 hq3 hq4 hq5 hq8 h_1 h_2 h_3 h_4 h_5 h_6 h_7 h_8 h_9 h_10 h_11 h_46 h_65 h_66 h_116 h_117 h_118 h_120 h_121 h_122 h_123 h_124 h_125 h_126 h_127 h_128 h_129 h_131 h_144 hq6 hq7 h_12 h_21 h_37 h_130 h_142 h_145 h_146 h_147 h_148 h_163 h_164; omega) | omega, by first | (clear ha2 hq0 hq2 hq3 hq4 hq5 hq8 h_1 h_2 h_3 h_4 h_5 h_6 h_7 h_8 h_9 h_10 h_11 h_46 h_65 h_66 h_116 h_117 h_118 h_119 h_122 h_123 h_124 h_125 h_126 h_127 h_128 h_129 h_131 h_144 hq6 hq7 h_12 h_21 h_37 h_130 h_142 h_145 h_146 h_147 h_148 h_163 h_164; omega) | omega⟩) (Or.inr (Or.inr ⟨by first | (clear ha2 hq0 hq1 hq2 hq3 hq4 hq5 hq8 h_1 h_2 h_3 h_4 h_5 h_6 h_7 h_8 h_9 h_10 h_11 h_46 h_65 h_66 h_116 h_117 h_118 h_119 h_120 h_121 h_122 h_124 h_125 h_126 h_127 h_128 h_129 h_131 h_144 hq6 hq7 h_12 h_21 h_37 h_130 h_142 h_145 h_146 h_147 h_148 h_163 h_164; omega) | omega, by first | (clear ha2 hq0 hq1 hq2 h_8 h_9 h_65 h_116 h_117 h_120 h_121 h_126; omega) | omega, by first | (clear ha2 hq0 hq1 hq2 hq3 hq4 hq5 hq8 h_1 h_2 h_3 h_4 h_5 h_6 h_7 h_8 h_9 h_10 h_11 h_65 h_66 h_116 h_117 h_118 h_120 h_121 h_122 h_123 h_124 h_125 h_126 h_127 h_128 h_129 h_131 h_144 hq6 hq7 h_12 h_21 h_37 h_130 h_142 h_145 h_146 h_147 h_148 h_163 h_164; omega) | omega, by first | (clear ha2 hq0 hq1 hq2 hq3 hq4 hq5 hq8 h_1 h_2 h_3 h_4 h_5 h_6 h_7 h_8 h_9 h_11 h_65 h_66 h_116 h_117 h_118 h_120 h_121 h_122 h_123 h_124 h_125 h_126 h_127 h_128 h_129 h_131 h_144 hq6 hq7 h_12 h_21 h_37 h_130 h_142 h_145 h_146 h_147 h_148 h_163 h_164; omega) | omega⟩)) (by first | (clear ha2 hq0 hq1 hq3 hq4 hq5 hq8 h_1 h_2 h_3 h_4 h_5 h_6 h_7 h_8 h_9 h_10 h_11 h_46 h_65 h_66 h_116 h_117 h_118 h_119 h_120 h_121 h_122 h_123 h_124 h_125 h_126 h_127 h_128 h_129 h_131 h_144 hq6 hq7 h_12 h_21 h_37 h_130 h_142 h_145 h_146 h_147 h_148 h_163 h_164; omega) | omega) (fun _ => ce_le hA_409 (by omega))
      · refine v_ic_ne_f (t := 31) rfl (by decide) (Decidable.not_not.mp h_164) ?_
        refine q_iconst rfl ?_
        refine q_goto (t := 117) rfl (by decide) ?_
        refine q_iret rfl rfl ?_
        refine bk_inl ?_
        refine q_istore_n rfl (by decide) ?_
        refine q_iload_n rfl rfl ?_
        refine q_iconst rfl ?_
        refine v_ic_ne_t (t := 136) rfl (by decide) (by decide) ?_
        refine q_aload_n rfl rfl ?_
        refine v_cv rfl rfl rfl rfl (by decide) ⟨⟨rfl, rfl⟩, by decide, rfl⟩ (Nat.le_of_ble_eq_true rfl) (Nat.le_of_ble_eq_true rfl) ?_
        refine q_aload_n rfl rfl ?_
        have kn_410 : Hid (c_132 41 5 = (-1)) := (hF_134 41 5 (fun h => absurd h.2 (ni rfl))).trans hro_hRt.2.1
        have kn_411 : Hid (c_137 41 5 = (-1)) := (hF_139 41 5 (fun h => absurd h.2 (ni rfl))).trans (hid kn_410)
        have kn_412 : Hid (c_149 41 5 = (-1)) := (hF_151 41 5 (fun h => absurd h.2 (ni rfl))).trans (hid kn_411)
        have kn_413 : Hid (c_154 41 5 = (-1)) := (hF_156 41 5 (fun h => absurd h.2 (ni rfl))).trans (hid kn_412)
        have kn_414 : Hid (c_159 41 5 = (-1)) := (hF_161 41 5 (fun h => absurd h.2 (ni rfl))).trans (hid kn_413)
        refine v_gi (z := 5) (v := (-1)) rfl rfl rfl (by decide) rfl rfl (hid kn_414) ?_
        refine q_iconst rfl ?_
        refine v_ic_ne_f (t := 12) rfl (by decide) (by decide) ?_
        refine q_iconst rfl ?_
        refine q_goto (t := 13) rfl (by decide) ?_
        refine v_zret rfl rfl (by decide) ?_
        refine bk_inl ?_
        refine v_if_ne_t (t := 144) rfl (by decide) (by decide) ?_
        refine q_aload_n rfl rfl ?_
        have kn_415 : Hid (c_159 41 3 = e1) := (hF_161 41 3 (fun h => absurd h.2 (ni rfl))).trans (hid kn_158)
        refine v_cv rfl rfl rfl rfl (by decide) ⟨⟨rfl, rfl⟩, by decide, rfl⟩ (Nat.le_of_ble_eq_true rfl) (Nat.le_of_ble_eq_true rfl) (f_159 (e1 := e1) (a9 := (nx F e1 p0)) (B := H) (L8 := (ln F e1 (nx F e1 p0))) hI_160 ((hid kn_415)) ((hz_162)) (fun j => ((hF_161 43 j (fun h => absurd h.1 (nn rfl))).trans ((hF_156 43 j (fun h => absurd h.1 (nn rfl))).trans ((hF_151 43 j (fun h => absurd h.1 (nn rfl))).trans ((hF_139 43 j (fun h => absurd h.1 (nn rfl))).trans (hF_134 43 j (fun h => absurd h.1 (nn rfl))))))).trans (hH j)) ((ln_tr hU (by first | (clear ha2 hq0 hq1 hq2 hq3 hq4 hq5 hq8 h_1 h_2 h_3 h_4 h_6 h_7 h_8 h_9 h_11 h_46 h_65 h_66 h_116 h_117 h_118 h_119 h_120 h_121 h_122 h_123 h_124 h_125 h_126 h_127 h_128 h_129 h_131 h_144 hq6 hq7 h_12 h_21 h_37 h_130 h_142 h_145 h_146 h_147 h_148 h_163; omega) | omega) (by first | (clear ha2 hq0 hq1 hq2 hq3 hq4 hq8 h_1 h_2 h_3 h_4 h_5 h_6 h_7 h_8 h_9 h_10 h_11 h_46 h_65 h_66 h_116 h_117 h_118 h_119 h_120 h_121 h_122 h_123 h_124 h_125 h_126 h_127 h_128 h_129 h_131 h_144 hq6 hq7 h_12 h_21 h_37 h_130 h_142 h_145 h_146 h_147 h_148 h_163; omega) | omega)).trans (rfl)) (fun c_416 hI_417 hF_418 hz_419 => ?_))
        refine bk_inl ?_
        refine q_aload_n rfl rfl ?_
        refine q_iconst rfl ?_
        refine q_iload_n rfl rfl ?_
        refine v_cv rfl rfl rfl rfl (by decide) ⟨⟨rfl, rfl⟩, by decide, rfl⟩ (Nat.le_of_ble_eq_true rfl) (Nat.le_of_ble_eq_true rfl) ?_
        refine q_aload_n rfl rfl ?_
        refine v_cv rfl rfl rfl rfl (by decide) ⟨⟨rfl, rfl⟩, by decide, rfl⟩ (Nat.le_of_ble_eq_true rfl) (Nat.le_of_ble_eq_true rfl) ?_
        refine q_aload_n rfl rfl ?_
        have kn_420 : Hid (c_416 41 5 = (-1)) := (hF_418 41 5 (fun h => absurd h.2 (ni rfl))).trans (hid kn_414)
        refine v_gi (z := 5) (v := (-1)) rfl rfl rfl (by decide) rfl rfl (hid kn_420) ?_
        refine q_iconst rfl ?_
        refine v_ic_ne_f (t := 12) rfl (by decide) (by decide) ?_
        refine q_iconst rfl ?_
        refine q_goto (t := 13) rfl (by decide) ?_
        refine v_zret rfl rfl (by decide) ?_
        refine bk_inl ?_
        refine v_if_ne_t (t := 8) rfl (by decide) (by decide) ?_
        refine q_aload_n rfl rfl ?_
        refine v_gr (t := 50) rfl rfl rfl (by decide) rfl ?_
        refine q_aload_n rfl rfl ?_
        have kn_421 : Hid (c_132 41 29 = n0) := (hF_134 41 29 (fun h => absurd h.2 (ni rfl))).trans (hr_n0)
        have kn_422 : Hid (c_137 41 29 = n0) := (hF_139 41 29 (fun h => absurd h.2 (ni rfl))).trans (hid kn_421)
        have kn_423 : Hid (c_149 41 29 = n0) := (hF_151 41 29 (fun h => absurd h.2 (ni rfl))).trans (hid kn_422)
        have kn_424 : Hid (c_154 41 29 = n0) := (hF_156 41 29 (fun h => absurd h.2 (ni rfl))).trans (hid kn_423)
        have kn_425 : Hid (c_159 41 29 = n0) := (hF_161 41 29 (fun h => absurd h.2 (ni rfl))).trans (hid kn_424)
        have kn_426 : Hid (c_416 41 29 = n0) := (hF_418 41 29 (fun h => absurd h.2 (ni rfl))).trans (hid kn_425)
        refine v_gi (z := 29) (v := n0) rfl rfl rfl (by decide) rfl rfl (hid kn_426) ?_
        refine q_iload_n rfl rfl ?_
        refine v_is rfl rfl (by decide) (by decide) (by omega) ?_
        refine q_aload_n rfl rfl ?_
        refine v_gr (t := 51) rfl rfl rfl (by decide) rfl ?_
        refine q_aload_n rfl rfl ?_
        refine v_gi (z := 29) (v := n0) rfl rfl rfl (by decide) rfl rfl ((up_c (nn rfl)).trans (hid kn_426)) ?_
        refine q_iload_n rfl rfl ?_
        refine v_is rfl rfl (by decide) (by decide) (by omega) ?_
        refine q_aload_n rfl rfl ?_
        refine q_dup rfl rfl ?_
        refine v_gi (z := 29) (v := n0) rfl rfl rfl (by decide) rfl rfl ((up_c (nn rfl)).trans ((up_c (nn rfl)).trans (hid kn_426))) ?_
        refine q_iconst rfl ?_
        refine v_iadd (v := n0 + 1) rfl rfl ?_
        refine v_pi (z := 29) rfl rfl rfl (by decide) rfl rfl rfl (by decide) ?_
        refine q_vret rfl rfl ?_
        refine bk_inl ?_
        refine q_vret rfl rfl ?_
        have hI_427 := iw_50 (j := n0) (v := 1) hI_417 ⟨by decide, by decide⟩
        have hI_428 := iw_51 (j := n0) (v := 1) hI_427 ⟨by decide, by decide⟩
        have hI_429 := iw_41_29 (v := n0 + 1) hI_428 ⟨by first | exact rgp_l (rg_eq hg_n0 h_6).1 (by decide) | omega, by first | (clear ha2 hq0 hq1 hq2 hq3 hq4 hq5 hq8 h_1 h_2 h_3 h_4 h_5 h_6 h_7 h_8 h_9 h_10 h_11 h_46 h_65 h_66 h_116 h_117 h_118 h_119 h_120 h_121 h_122 h_123 h_124 h_125 h_126 h_127 h_128 h_129 h_131 h_144 hq6 hq7 h_12 h_21 h_37 h_130 h_142 h_145 h_146 h_147 h_148 h_163; omega) | omega⟩
        have h_430 : (up (up (up c_416 50 n0 1) 51 n0 1) 41 29 (n0 + 1)) 41 5 = (-1) := ((up_n (by decide)).trans ((up_c (nn rfl)).trans ((up_c (nn rfl)).trans (hid kn_420))))
        have h_431 : (up (up (up c_416 50 n0 1) 51 n0 1) 41 29 (n0 + 1)) 41 4 = (ln F e1 (nx F e1 p0)) := ((up_n (by decide)).trans ((up_c (nn rfl)).trans ((up_c (nn rfl)).trans (hz_419))))
        have kn_432 : Hid (c_132 41 6 = c 41 6) := hF_134 41 6 (fun h => absurd h.2 (ni rfl))
        have kn_433 : Hid (c_137 41 6 = c 41 6) := (hF_139 41 6 (fun h => absurd h.2 (ni rfl))).trans (hid kn_432)
        have kn_434 : Hid (c_149 41 6 = c 41 6) := (hF_151 41 6 (fun h => absurd h.2 (ni rfl))).trans (hid kn_433)
        have kn_435 : Hid (c_154 41 6 = c 41 6) := (hF_156 41 6 (fun h => absurd h.2 (ni rfl))).trans (hid kn_434)
        have kn_436 : Hid (c_159 41 6 = c 41 6) := (hF_161 41 6 (fun h => absurd h.2 (ni rfl))).trans (hid kn_435)
        have kn_437 : Hid (c_416 41 6 = c 41 6) := (hF_418 41 6 (fun h => absurd h.2 (ni rfl))).trans (hid kn_436)
        have h_438 : (up (up (up c_416 50 n0 1) 51 n0 1) 41 29 (n0 + 1)) 41 6 = c 41 6 := ((up_n (by decide)).trans ((up_c (nn rfl)).trans ((up_c (nn rfl)).trans (hid kn_437))))
        have h_439 : (up (up (up c_416 50 n0 1) 51 n0 1) 41 29 (n0 + 1)) 41 29 = n0 + 1 := (up_e rfl)
        have kn_440 : Hid (c_132 41 7 = o0) := (hF_134 41 7 (fun h => absurd h.2 (ni rfl))).trans (hr_o0)
        have kn_441 : Hid (c_137 41 7 = o0) := (hF_139 41 7 (fun h => absurd h.2 (ni rfl))).trans (hid kn_440)
        have kn_442 : Hid (c_149 41 7 = o0) := (hF_151 41 7 (fun h => absurd h.2 (ni rfl))).trans (hid kn_441)
        have kn_443 : Hid (c_154 41 7 = o0) := (hF_156 41 7 (fun h => absurd h.2 (ni rfl))).trans (hid kn_442)
        have kn_444 : Hid (c_159 41 7 = o0) := (hF_161 41 7 (fun h => absurd h.2 (ni rfl))).trans (hid kn_443)
        have kn_445 : Hid (c_416 41 7 = o0) := (hF_418 41 7 (fun h => absurd h.2 (ni rfl))).trans (hid kn_444)
        have h_446 : (up (up (up c_416 50 n0 1) 51 n0 1) 41 29 (n0 + 1)) 41 7 = o0 := ((up_n (by decide)).trans ((up_c (nn rfl)).trans ((up_c (nn rfl)).trans (hid kn_445))))
        have h_447 : (up (up (up c_416 50 n0 1) 51 n0 1) 41 29 (n0 + 1)) 41 29 = n0 + 1 := (up_e rfl)
        have hA_448 : Ce (n0 + 1) ((up (up c_62 (A + 9) n0 ((wd1_0 F (nx F e1 p0) (ln F e1 (nx F e1 p0))) + 1000)) (A + 7) 5 (n0 + 1)) (A + 9)) ((up (up (up c_416 50 n0 1) 51 n0 1) 41 29 (n0 + 1)) 50) ((up (up (up c_416 50 n0 1) 51 n0 1) 41 29 (n0 + 1)) 51) := ce_w (i := n0) (v := (wd1_0 F (nx F e1 p0) (ln F e1 (nx F e1 p0))) + 1000) (w := 1) (o := 1) hr0 (by omega) ((up_c (pp rfl)).trans (up_e rfl)) ((up_c (nn rfl)).trans ((up_c (nn rfl)).trans (up_e rfl))) ((up_c (nn rfl)).trans (up_e rfl)) (fun j hj => (up_c (pp rfl)).trans ((up_n hj).trans ((hF_64 (A + 9) j (fun q => q.elim (fun h => absurd h.1 (np hA rfl rfl)) (fun q => q.elim (fun h => absurd h.1 (np hA rfl rfl)) (fun h => absurd h.1 (np hA rfl rfl))))).trans ((hF_36 (A + 9) j (fun h => absurd h.1 (np hA rfl rfl))).trans ((hF_26 (A + 9) j (fun h => absurd h.1 (np hA rfl rfl))).trans (hF_20 (A + 9) j (fun h => absurd h.1 (np hA rfl rfl)))))))) (fun j hj => (up_c (nn rfl)).trans ((up_c (nn rfl)).trans ((up_n hj).trans ((hF_418 50 j (fun h => absurd h.1 (nn rfl))).trans ((hF_161 50 j (fun h => absurd h.1 (nn rfl))).trans ((hF_156 50 j (fun h => absurd h.1 (nn rfl))).trans ((hF_151 50 j (fun h => absurd h.1 (nn rfl))).trans ((hF_139 50 j (fun h => absurd h.1 (nn rfl))).trans (hF_134 50 j (fun h => absurd h.1 (nn rfl))))))))))) (fun j hj => (up_c (nn rfl)).trans ((up_n hj).trans ((up_c (nn rfl)).trans ((hF_418 51 j (fun h => absurd h.1 (nn rfl))).trans ((hF_161 51 j (fun h => absurd h.1 (nn rfl))).trans ((hF_156 51 j (fun h => absurd h.1 (nn rfl))).trans ((hF_151 51 j (fun h => absurd h.1 (nn rfl))).trans ((hF_139 51 j (fun h => absurd h.1 (nn rfl))).trans (hF_134 51 j (fun h => absurd h.1 (nn rfl))))))))))) (cr_i1 ⟨by first | (clear ha2 hq0 hq1 hq2 hq3 hq4 hq5 h_1 h_2 h_3 h_4 h_5 h_6 h_7 h_8 h_9 h_10 h_11 h_46 h_65 h_66 h_116 h_117 h_118 h_119 h_120 h_121 h_122 h_123 h_124 h_125 h_126 h_127 h_128 h_129 h_131 h_144 hq6 hq7 h_12 h_21 h_37 h_130 h_142 h_145 h_146 h_147 h_148 h_163; omega) | omega, by first | (clear ha2 hq0 hq1 hq2 hq3 hq4 hq5 h_1 h_2 h_3 h_4 h_5 h_6 h_7 h_8 h_9 h_10 h_11 h_46 h_65 h_66 h_116 h_117 h_118 h_119 h_120 h_121 h_122 h_123 h_124 h_125 h_126 h_127 h_128 h_129 h_131 h_144 hq6 hq7 h_12 h_21 h_37 h_130 h_142 h_145 h_146 h_147 h_148 h_163; omega) | omega, by decide, by first | (clear ha2 hq0 hq1 hq2 hq3 hq4 hq5 h_1 h_2 h_3 h_4 h_5 h_6 h_7 h_8 h_9 h_10 h_11 h_46 h_65 h_116 h_117 h_118 h_119 h_120 h_121 h_122 h_123 h_124 h_125 h_126 h_127 h_128 h_129 h_131 h_144 hq6 hq7 h_12 h_21 h_37 h_130 h_142 h_147 h_148 h_163; omega) | omega⟩)
        have hA_449 : Ce (n0 + 1) (m9 (A + 9)) ((up (up (up c_416 50 n0 1) 51 n0 1) 41 29 (n0 + 1)) 50) ((up (up (up c_416 50 n0 1) 51 n0 1) 41 29 (n0 + 1)) 51) := ce_l hA_448 (fun j h1 h2 => wd_av hW (ck_p9 hA) (ck_p9 hA) (by decide) (a68 hA rfl) ⟨h1, by omega⟩ rfl (ir_p9 hI_114 hA j) (ir_p9 hJ9 hA j))
        exact K (up (up (up c_416 50 n0 1) 51 n0 1) 41 29 (n0 + 1))  hI_429 (fun a j hm => (up_b (Decidable.or_iff_not_imp_left.mpr (fun h1 h2 => hm (Or.inr (Or.inr (Or.inr (Or.inr (Or.inl ⟨Decidable.not_not.mp h1, h2⟩)))))))).trans ((up_b (Decidable.or_iff_not_imp_left.mpr (fun h1 h2 => hm (Or.inr (Or.inr (Or.inr (Or.inr (Or.inr (Or.inr (Decidable.not_not.mp h1)))))))))).trans ((up_b (Decidable.or_iff_not_imp_left.mpr (fun h1 h2 => hm (Or.inr (Or.inr (Or.inr (Or.inr (Or.inr (Or.inl (Decidable.not_not.mp h1)))))))))).trans ((hF_418 a j (fun h => hm (Or.inl h))).trans ((hF_161 a j (fun h => hm (Or.inl h))).trans ((hF_156 a j (fun h => hm (Or.inl h))).trans ((hF_151 a j (fun h => hm (Or.inl h))).trans ((hF_139 a j (fun h => hm (Or.inl h))).trans (hF_134 a j (fun h => hm (Or.inl h))))))))))) (rt_i1 ⟨by first | (clear ha2 hq0 hq1 hq2 hq3 hq4 hq5 hq8 h_1 h_2 h_3 h_4 h_5 h_6 h_7 h_8 h_9 h_10 h_11 h_46 h_65 h_66 h_118 h_119 h_120 h_121 h_122 h_123 h_124 h_125 h_126 h_127 h_128 h_129 h_131 h_144 hq6 hq7 h_12 h_21 h_37 h_130 h_142 h_145 h_146 h_147 h_148 h_163; omega) | omega, by first | (clear ha2 hq0 hq1 hq2 hq3 hq4 hq5 hq8 h_1 h_2 h_3 h_4 h_5 h_6 h_7 h_8 h_9 h_10 h_11 h_46 h_65 h_66 h_116 h_117 h_118 h_119 h_120 h_121 h_122 h_123 h_124 h_125 h_126 h_127 h_128 h_129 h_131 h_144 hq6 hq7 h_12 h_21 h_37 h_130 h_142 h_145 h_146 h_147 h_148 h_163; omega) | omega, by first | (clear ha2 hq0 hq1 hq2 hq3 hq4 hq5 hq8 h_1 h_2 h_3 h_4 h_5 h_6 h_7 h_8 h_9 h_10 h_11 h_46 h_65 h_66 h_116 h_117 h_118 h_120 h_121 h_122 h_123 h_124 h_125 h_126 h_127 h_128 h_129 h_131 h_144 hq6 hq7 h_12 h_21 h_37 h_130 h_142 h_145 h_146 h_147 h_148 h_163; omega) | omega, by first | (clear ha2 hq0 hq2 hq3 hq4 hq5 hq8 h_1 h_2 h_3 h_4 h_5 h_6 h_7 h_8 h_9 h_10 h_11 h_46 h_65 h_66 h_116 h_117 h_118 h_119 h_122 h_123 h_124 h_125 h_126 h_127 h_128 h_129 h_131 h_144 hq6 hq7 h_12 h_21 h_37 h_130 h_142 h_145 h_146 h_147 h_148 h_163; omega) | omega⟩) (Or.inr (Or.inr ⟨by first | (clear ha2 hq0 hq1 hq2 hq3 hq4 hq5 hq8 h_1 h_2 h_3 h_4 h_5 h_6 h_7 h_8 h_9 h_10 h_11 h_46 h_65 h_66 h_116 h_117 h_118 h_119 h_120 h_121 h_122 h_124 h_125 h_126 h_127 h_128 h_129 h_131 h_144 hq6 hq7 h_12 h_21 h_37 h_130 h_142 h_145 h_146 h_147 h_148 h_163; omega) | omega, by first | (clear ha2 hq0 hq1 hq2 h_8 h_9 h_65 h_116 h_117 h_120 h_121 h_126; omega) | omega, by first | (clear ha2 hq0 hq1 hq2 hq3 hq4 hq5 hq8 h_1 h_2 h_3 h_4 h_5 h_6 h_7 h_8 h_9 h_10 h_11 h_65 h_66 h_116 h_117 h_118 h_120 h_121 h_122 h_123 h_124 h_125 h_126 h_127 h_128 h_129 h_131 h_144 hq6 hq7 h_12 h_21 h_37 h_130 h_142 h_145 h_146 h_147 h_148 h_163; omega) | omega, by first | (clear ha2 hq0 hq1 hq2 hq3 hq4 hq5 hq8 h_1 h_2 h_3 h_4 h_5 h_6 h_7 h_8 h_9 h_11 h_65 h_66 h_116 h_117 h_118 h_120 h_121 h_122 h_123 h_124 h_125 h_126 h_127 h_128 h_129 h_131 h_144 hq6 hq7 h_12 h_21 h_37 h_130 h_142 h_145 h_146 h_147 h_148 h_163; omega) | omega⟩)) (by first | (clear ha2 hq0 hq1 hq3 hq4 hq5 hq8 h_1 h_2 h_3 h_4 h_5 h_6 h_7 h_8 h_9 h_10 h_11 h_46 h_65 h_66 h_116 h_117 h_118 h_119 h_120 h_121 h_122 h_123 h_124 h_125 h_126 h_127 h_128 h_129 h_131 h_144 hq6 hq7 h_12 h_21 h_37 h_130 h_142 h_145 h_146 h_147 h_148 h_163; omega) | omega) (fun _ => ce_le hA_449 (by omega))
    · refine v_ic_ne_f (t := 18) rfl (by decide) (Decidable.not_not.mp h_163) ?_
      refine q_iconst rfl ?_
      refine q_goto (t := 117) rfl (by decide) ?_
      refine q_iret rfl rfl ?_
      refine bk_inl ?_
      refine q_istore_n rfl (by decide) ?_
      refine q_iload_n rfl rfl ?_
      refine q_iconst rfl ?_
      refine v_ic_ne_t (t := 136) rfl (by decide) (by decide) ?_
      refine q_aload_n rfl rfl ?_
      refine v_cv rfl rfl rfl rfl (by decide) ⟨⟨rfl, rfl⟩, by decide, rfl⟩ (Nat.le_of_ble_eq_true rfl) (Nat.le_of_ble_eq_true rfl) ?_
      refine q_aload_n rfl rfl ?_
      have kn_450 : Hid (c_132 41 5 = (-1)) := (hF_134 41 5 (fun h => absurd h.2 (ni rfl))).trans hro_hRt.2.1
      have kn_451 : Hid (c_137 41 5 = (-1)) := (hF_139 41 5 (fun h => absurd h.2 (ni rfl))).trans (hid kn_450)
      have kn_452 : Hid (c_149 41 5 = (-1)) := (hF_151 41 5 (fun h => absurd h.2 (ni rfl))).trans (hid kn_451)
      have kn_453 : Hid (c_154 41 5 = (-1)) := (hF_156 41 5 (fun h => absurd h.2 (ni rfl))).trans (hid kn_452)
      have kn_454 : Hid (c_159 41 5 = (-1)) := (hF_161 41 5 (fun h => absurd h.2 (ni rfl))).trans (hid kn_453)
      refine v_gi (z := 5) (v := (-1)) rfl rfl rfl (by decide) rfl rfl (hid kn_454) ?_
      refine q_iconst rfl ?_
      refine v_ic_ne_f (t := 12) rfl (by decide) (by decide) ?_
      refine q_iconst rfl ?_
      refine q_goto (t := 13) rfl (by decide) ?_
      refine v_zret rfl rfl (by decide) ?_
      refine bk_inl ?_
      refine v_if_ne_t (t := 144) rfl (by decide) (by decide) ?_
      refine q_aload_n rfl rfl ?_
      have kn_455 : Hid (c_159 41 3 = e1) := (hF_161 41 3 (fun h => absurd h.2 (ni rfl))).trans (hid kn_158)
      refine v_cv rfl rfl rfl rfl (by decide) ⟨⟨rfl, rfl⟩, by decide, rfl⟩ (Nat.le_of_ble_eq_true rfl) (Nat.le_of_ble_eq_true rfl) (f_159 (e1 := e1) (a9 := (nx F e1 p0)) (B := H) (L8 := (ln F e1 (nx F e1 p0))) hI_160 ((hid kn_455)) ((hz_162)) (fun j => ((hF_161 43 j (fun h => absurd h.1 (nn rfl))).trans ((hF_156 43 j (fun h => absurd h.1 (nn rfl))).trans ((hF_151 43 j (fun h => absurd h.1 (nn rfl))).trans ((hF_139 43 j (fun h => absurd h.1 (nn rfl))).trans (hF_134 43 j (fun h => absurd h.1 (nn rfl))))))).trans (hH j)) ((ln_tr hU (by first | (clear ha2 hq0 hq1 hq2 hq3 hq4 hq5 hq8 h_1 h_2 h_3 h_4 h_6 h_7 h_8 h_9 h_11 h_46 h_65 h_66 h_116 h_117 h_118 h_119 h_120 h_121 h_122 h_123 h_124 h_125 h_126 h_127 h_128 h_129 h_131 h_144 hq6 hq7 h_12 h_21 h_37 h_130 h_142 h_145 h_146 h_147 h_148; omega) | omega) (by first | (clear ha2 hq0 hq1 hq2 hq3 hq4 hq8 h_1 h_2 h_3 h_4 h_5 h_6 h_7 h_8 h_9 h_10 h_11 h_46 h_65 h_66 h_116 h_117 h_118 h_119 h_120 h_121 h_122 h_123 h_124 h_125 h_126 h_127 h_128 h_129 h_131 h_144 hq6 hq7 h_12 h_21 h_37 h_130 h_142 h_145 h_146 h_147 h_148; omega) | omega)).trans (rfl)) (fun c_456 hI_457 hF_458 hz_459 => ?_))
      refine bk_inl ?_
      refine q_aload_n rfl rfl ?_
      refine q_iconst rfl ?_
      refine q_iload_n rfl rfl ?_
      refine v_cv rfl rfl rfl rfl (by decide) ⟨⟨rfl, rfl⟩, by decide, rfl⟩ (Nat.le_of_ble_eq_true rfl) (Nat.le_of_ble_eq_true rfl) ?_
      refine q_aload_n rfl rfl ?_
      refine v_cv rfl rfl rfl rfl (by decide) ⟨⟨rfl, rfl⟩, by decide, rfl⟩ (Nat.le_of_ble_eq_true rfl) (Nat.le_of_ble_eq_true rfl) ?_
      refine q_aload_n rfl rfl ?_
      have kn_460 : Hid (c_456 41 5 = (-1)) := (hF_458 41 5 (fun h => absurd h.2 (ni rfl))).trans (hid kn_454)
      refine v_gi (z := 5) (v := (-1)) rfl rfl rfl (by decide) rfl rfl (hid kn_460) ?_
      refine q_iconst rfl ?_
      refine v_ic_ne_f (t := 12) rfl (by decide) (by decide) ?_
      refine q_iconst rfl ?_
      refine q_goto (t := 13) rfl (by decide) ?_
      refine v_zret rfl rfl (by decide) ?_
      refine bk_inl ?_
      refine v_if_ne_t (t := 8) rfl (by decide) (by decide) ?_
      refine q_aload_n rfl rfl ?_
      refine v_gr (t := 50) rfl rfl rfl (by decide) rfl ?_
      refine q_aload_n rfl rfl ?_
      have kn_461 : Hid (c_132 41 29 = n0) := (hF_134 41 29 (fun h => absurd h.2 (ni rfl))).trans (hr_n0)
      have kn_462 : Hid (c_137 41 29 = n0) := (hF_139 41 29 (fun h => absurd h.2 (ni rfl))).trans (hid kn_461)
      have kn_463 : Hid (c_149 41 29 = n0) := (hF_151 41 29 (fun h => absurd h.2 (ni rfl))).trans (hid kn_462)
      have kn_464 : Hid (c_154 41 29 = n0) := (hF_156 41 29 (fun h => absurd h.2 (ni rfl))).trans (hid kn_463)
      have kn_465 : Hid (c_159 41 29 = n0) := (hF_161 41 29 (fun h => absurd h.2 (ni rfl))).trans (hid kn_464)
      have kn_466 : Hid (c_456 41 29 = n0) := (hF_458 41 29 (fun h => absurd h.2 (ni rfl))).trans (hid kn_465)
      refine v_gi (z := 29) (v := n0) rfl rfl rfl (by decide) rfl rfl (hid kn_466) ?_
      refine q_iload_n rfl rfl ?_
      refine v_is rfl rfl (by decide) (by decide) (by omega) ?_
      refine q_aload_n rfl rfl ?_
      refine v_gr (t := 51) rfl rfl rfl (by decide) rfl ?_
      refine q_aload_n rfl rfl ?_
      refine v_gi (z := 29) (v := n0) rfl rfl rfl (by decide) rfl rfl ((up_c (nn rfl)).trans (hid kn_466)) ?_
      refine q_iload_n rfl rfl ?_
      refine v_is rfl rfl (by decide) (by decide) (by omega) ?_
      refine q_aload_n rfl rfl ?_
      refine q_dup rfl rfl ?_
      refine v_gi (z := 29) (v := n0) rfl rfl rfl (by decide) rfl rfl ((up_c (nn rfl)).trans ((up_c (nn rfl)).trans (hid kn_466))) ?_
      refine q_iconst rfl ?_
      refine v_iadd (v := n0 + 1) rfl rfl ?_
      refine v_pi (z := 29) rfl rfl rfl (by decide) rfl rfl rfl (by decide) ?_
      refine q_vret rfl rfl ?_
      refine bk_inl ?_
      refine q_vret rfl rfl ?_
      have hI_467 := iw_50 (j := n0) (v := 1) hI_457 ⟨by decide, by decide⟩
      have hI_468 := iw_51 (j := n0) (v := 0) hI_467 ⟨by decide, by decide⟩
      have hI_469 := iw_41_29 (v := n0 + 1) hI_468 ⟨by first | exact rgp_l (rg_eq hg_n0 h_6).1 (by decide) | omega, by first | (clear ha2 hq0 hq1 hq2 hq3 hq4 hq5 hq8 h_1 h_2 h_3 h_4 h_5 h_6 h_7 h_8 h_9 h_10 h_11 h_46 h_65 h_66 h_116 h_117 h_118 h_119 h_120 h_121 h_122 h_123 h_124 h_125 h_126 h_127 h_128 h_129 h_131 h_144 hq6 hq7 h_12 h_21 h_37 h_130 h_142 h_145 h_146 h_147 h_148; omega) | omega⟩
      have h_470 : (up (up (up c_456 50 n0 1) 51 n0 0) 41 29 (n0 + 1)) 41 5 = (-1) := ((up_n (by decide)).trans ((up_c (nn rfl)).trans ((up_c (nn rfl)).trans (hid kn_460))))
      have h_471 : (up (up (up c_456 50 n0 1) 51 n0 0) 41 29 (n0 + 1)) 41 4 = (ln F e1 (nx F e1 p0)) := ((up_n (by decide)).trans ((up_c (nn rfl)).trans ((up_c (nn rfl)).trans (hz_459))))
      have kn_472 : Hid (c_132 41 6 = c 41 6) := hF_134 41 6 (fun h => absurd h.2 (ni rfl))
      have kn_473 : Hid (c_137 41 6 = c 41 6) := (hF_139 41 6 (fun h => absurd h.2 (ni rfl))).trans (hid kn_472)
      have kn_474 : Hid (c_149 41 6 = c 41 6) := (hF_151 41 6 (fun h => absurd h.2 (ni rfl))).trans (hid kn_473)
      have kn_475 : Hid (c_154 41 6 = c 41 6) := (hF_156 41 6 (fun h => absurd h.2 (ni rfl))).trans (hid kn_474)
      have kn_476 : Hid (c_159 41 6 = c 41 6) := (hF_161 41 6 (fun h => absurd h.2 (ni rfl))).trans (hid kn_475)
      have kn_477 : Hid (c_456 41 6 = c 41 6) := (hF_458 41 6 (fun h => absurd h.2 (ni rfl))).trans (hid kn_476)
      have h_478 : (up (up (up c_456 50 n0 1) 51 n0 0) 41 29 (n0 + 1)) 41 6 = c 41 6 := ((up_n (by decide)).trans ((up_c (nn rfl)).trans ((up_c (nn rfl)).trans (hid kn_477))))
      have h_479 : (up (up (up c_456 50 n0 1) 51 n0 0) 41 29 (n0 + 1)) 41 29 = n0 + 1 := (up_e rfl)
      have kn_480 : Hid (c_132 41 7 = o0) := (hF_134 41 7 (fun h => absurd h.2 (ni rfl))).trans (hr_o0)
      have kn_481 : Hid (c_137 41 7 = o0) := (hF_139 41 7 (fun h => absurd h.2 (ni rfl))).trans (hid kn_480)
      have kn_482 : Hid (c_149 41 7 = o0) := (hF_151 41 7 (fun h => absurd h.2 (ni rfl))).trans (hid kn_481)
      have kn_483 : Hid (c_154 41 7 = o0) := (hF_156 41 7 (fun h => absurd h.2 (ni rfl))).trans (hid kn_482)
      have kn_484 : Hid (c_159 41 7 = o0) := (hF_161 41 7 (fun h => absurd h.2 (ni rfl))).trans (hid kn_483)
      have kn_485 : Hid (c_456 41 7 = o0) := (hF_458 41 7 (fun h => absurd h.2 (ni rfl))).trans (hid kn_484)
      have h_486 : (up (up (up c_456 50 n0 1) 51 n0 0) 41 29 (n0 + 1)) 41 7 = o0 := ((up_n (by decide)).trans ((up_c (nn rfl)).trans ((up_c (nn rfl)).trans (hid kn_485))))
      have h_487 : (up (up (up c_456 50 n0 1) 51 n0 0) 41 29 (n0 + 1)) 41 29 = n0 + 1 := (up_e rfl)
      have hA_488 : Ce (n0 + 1) ((up (up c_62 (A + 9) n0 ((wd1_0 F (nx F e1 p0) (ln F e1 (nx F e1 p0))) + 1000)) (A + 7) 5 (n0 + 1)) (A + 9)) ((up (up (up c_456 50 n0 1) 51 n0 0) 41 29 (n0 + 1)) 50) ((up (up (up c_456 50 n0 1) 51 n0 0) 41 29 (n0 + 1)) 51) := ce_w (i := n0) (v := (wd1_0 F (nx F e1 p0) (ln F e1 (nx F e1 p0))) + 1000) (w := 1) (o := 0) hr0 (by omega) ((up_c (pp rfl)).trans (up_e rfl)) ((up_c (nn rfl)).trans ((up_c (nn rfl)).trans (up_e rfl))) ((up_c (nn rfl)).trans (up_e rfl)) (fun j hj => (up_c (pp rfl)).trans ((up_n hj).trans ((hF_64 (A + 9) j (fun q => q.elim (fun h => absurd h.1 (np hA rfl rfl)) (fun q => q.elim (fun h => absurd h.1 (np hA rfl rfl)) (fun h => absurd h.1 (np hA rfl rfl))))).trans ((hF_36 (A + 9) j (fun h => absurd h.1 (np hA rfl rfl))).trans ((hF_26 (A + 9) j (fun h => absurd h.1 (np hA rfl rfl))).trans (hF_20 (A + 9) j (fun h => absurd h.1 (np hA rfl rfl)))))))) (fun j hj => (up_c (nn rfl)).trans ((up_c (nn rfl)).trans ((up_n hj).trans ((hF_458 50 j (fun h => absurd h.1 (nn rfl))).trans ((hF_161 50 j (fun h => absurd h.1 (nn rfl))).trans ((hF_156 50 j (fun h => absurd h.1 (nn rfl))).trans ((hF_151 50 j (fun h => absurd h.1 (nn rfl))).trans ((hF_139 50 j (fun h => absurd h.1 (nn rfl))).trans (hF_134 50 j (fun h => absurd h.1 (nn rfl))))))))))) (fun j hj => (up_c (nn rfl)).trans ((up_n hj).trans ((up_c (nn rfl)).trans ((hF_458 51 j (fun h => absurd h.1 (nn rfl))).trans ((hF_161 51 j (fun h => absurd h.1 (nn rfl))).trans ((hF_156 51 j (fun h => absurd h.1 (nn rfl))).trans ((hF_151 51 j (fun h => absurd h.1 (nn rfl))).trans ((hF_139 51 j (fun h => absurd h.1 (nn rfl))).trans (hF_134 51 j (fun h => absurd h.1 (nn rfl))))))))))) (cr_i1 ⟨by first | (clear ha2 hq0 hq1 hq2 hq3 hq4 hq5 h_1 h_2 h_3 h_4 h_5 h_6 h_7 h_8 h_9 h_10 h_11 h_46 h_65 h_66 h_116 h_117 h_118 h_119 h_120 h_121 h_122 h_123 h_124 h_125 h_126 h_127 h_128 h_129 h_131 h_144 hq6 hq7 h_12 h_21 h_37 h_130 h_142 h_145 h_146 h_147 h_148; omega) | omega, by first | (clear ha2 hq0 hq1 hq2 hq3 hq4 hq5 h_1 h_2 h_3 h_4 h_5 h_6 h_7 h_8 h_9 h_10 h_11 h_46 h_65 h_66 h_116 h_117 h_118 h_119 h_120 h_121 h_122 h_123 h_124 h_125 h_126 h_127 h_128 h_129 h_131 h_144 hq6 hq7 h_12 h_21 h_37 h_130 h_142 h_145 h_146 h_147 h_148; omega) | omega, by decide, by first | (clear ha2 hq0 hq1 hq2 hq3 hq4 hq5 h_1 h_2 h_3 h_4 h_5 h_6 h_7 h_8 h_9 h_10 h_11 h_46 h_65 h_116 h_117 h_118 h_119 h_120 h_121 h_122 h_123 h_124 h_125 h_126 h_127 h_128 h_129 h_131 h_144 hq6 hq7 h_12 h_21 h_37 h_130 h_142 h_147 h_148; omega) | omega⟩)
      have hA_489 : Ce (n0 + 1) (m9 (A + 9)) ((up (up (up c_456 50 n0 1) 51 n0 0) 41 29 (n0 + 1)) 50) ((up (up (up c_456 50 n0 1) 51 n0 0) 41 29 (n0 + 1)) 51) := ce_l hA_488 (fun j h1 h2 => wd_av hW (ck_p9 hA) (ck_p9 hA) (by decide) (a68 hA rfl) ⟨h1, by omega⟩ rfl (ir_p9 hI_114 hA j) (ir_p9 hJ9 hA j))
      exact K (up (up (up c_456 50 n0 1) 51 n0 0) 41 29 (n0 + 1))  hI_469 (fun a j hm => (up_b (Decidable.or_iff_not_imp_left.mpr (fun h1 h2 => hm (Or.inr (Or.inr (Or.inr (Or.inr (Or.inl ⟨Decidable.not_not.mp h1, h2⟩)))))))).trans ((up_b (Decidable.or_iff_not_imp_left.mpr (fun h1 h2 => hm (Or.inr (Or.inr (Or.inr (Or.inr (Or.inr (Or.inr (Decidable.not_not.mp h1)))))))))).trans ((up_b (Decidable.or_iff_not_imp_left.mpr (fun h1 h2 => hm (Or.inr (Or.inr (Or.inr (Or.inr (Or.inr (Or.inl (Decidable.not_not.mp h1)))))))))).trans ((hF_458 a j (fun h => hm (Or.inl h))).trans ((hF_161 a j (fun h => hm (Or.inl h))).trans ((hF_156 a j (fun h => hm (Or.inl h))).trans ((hF_151 a j (fun h => hm (Or.inl h))).trans ((hF_139 a j (fun h => hm (Or.inl h))).trans (hF_134 a j (fun h => hm (Or.inl h))))))))))) (rt_i1 ⟨by first | (clear ha2 hq0 hq1 hq2 hq3 hq4 hq5 hq8 h_1 h_2 h_3 h_4 h_5 h_6 h_7 h_8 h_9 h_10 h_11 h_46 h_65 h_66 h_118 h_119 h_120 h_121 h_122 h_123 h_124 h_125 h_126 h_127 h_128 h_129 h_131 h_144 hq6 hq7 h_12 h_21 h_37 h_130 h_142 h_145 h_146 h_147 h_148; omega) | omega, by first | (clear ha2 hq0 hq1 hq2 hq3 hq4 hq5 hq8 h_1 h_2 h_3 h_4 h_5 h_6 h_7 h_8 h_9 h_10 h_11 h_46 h_65 h_66 h_116 h_117 h_118 h_119 h_120 h_121 h_122 h_123 h_124 h_125 h_126 h_127 h_128 h_129 h_131 h_144 hq6 hq7 h_12 h_21 h_37 h_130 h_142 h_145 h_146 h_147 h_148; omega) | omega, by first | (clear ha2 hq0 hq1 hq2 hq3 hq4 hq5 hq8 h_1 h_2 h_3 h_4 h_5 h_6 h_7 h_8 h_9 h_10 h_11 h_46 h_65 h_66 h_116 h_117 h_118 h_120 h_121 h_122 h_123 h_124 h_125 h_126 h_127 h_128 h_129 h_131 h_144 hq6 hq7 h_12 h_21 h_37 h_130 h_142 h_145 h_146 h_147 h_148; omega) | omega, by first | (clear ha2 hq0 hq2 hq3 hq4 hq5 hq8 h_1 h_2 h_3 h_4 h_5 h_6 h_7 h_8 h_9 h_10 h_11 h_46 h_65 h_66 h_116 h_117 h_118 h_119 h_122 h_123 h_124 h_125 h_126 h_127 h_128 h_129 h_131 h_144 hq6 hq7 h_12 h_21 h_37 h_130 h_142 h_145 h_146 h_147 h_148; omega) | omega⟩) (Or.inr (Or.inr ⟨by first | (clear ha2 hq0 hq1 hq2 hq3 hq4 hq5 hq8 h_1 h_2 h_3 h_4 h_5 h_6 h_7 h_8 h_9 h_10 h_11 h_46 h_65 h_66 h_116 h_117 h_118 h_119 h_120 h_121 h_122 h_124 h_125 h_126 h_127 h_128 h_129 h_131 h_144 hq6 hq7 h_12 h_21 h_37 h_130 h_142 h_145 h_146 h_147 h_148; omega) | omega, by first | (clear ha2 hq0 hq1 hq2 h_8 h_9 h_65 h_116 h_117 h_120 h_121 h_126; omega) | omega, by first | (clear ha2 hq0 hq1 hq2 hq3 hq4 hq5 hq8 h_1 h_2 h_3 h_4 h_5 h_6 h_7 h_8 h_9 h_10 h_11 h_65 h_66 h_116 h_117 h_118 h_120 h_121 h_122 h_123 h_124 h_125 h_126 h_127 h_128 h_129 h_131 h_144 hq6 hq7 h_12 h_21 h_37 h_130 h_142 h_145 h_146 h_147 h_148; omega) | omega, by first | (clear ha2 hq0 hq1 hq2 hq3 hq4 hq5 hq8 h_1 h_2 h_3 h_4 h_5 h_6 h_7 h_8 h_9 h_11 h_65 h_66 h_116 h_117 h_118 h_120 h_121 h_122 h_123 h_124 h_125 h_126 h_127 h_128 h_129 h_131 h_144 hq6 hq7 h_12 h_21 h_37 h_130 h_142 h_145 h_146 h_147 h_148; omega) | omega⟩)) (by first | (clear ha2 hq0 hq1 hq3 hq4 hq5 hq8 h_1 h_2 h_3 h_4 h_5 h_6 h_7 h_8 h_9 h_10 h_11 h_46 h_65 h_66 h_116 h_117 h_118 h_119 h_120 h_121 h_122 h_123 h_124 h_125 h_126 h_127 h_128 h_129 h_131 h_144 hq6 hq7 h_12 h_21 h_37 h_130 h_142 h_145 h_146 h_147 h_148; omega) | omega) (fun _ => ce_le hA_489 (by omega))

