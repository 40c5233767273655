/-! ===== class and reference side by side 4 ===== -/
set_option maxRecDepth 100000 in
set_option maxHeartbeats 4000000 in
theorem L_14_a {sc : List Int32} {e eg : Int} {d dh u ug P Q P2 Q2 A : Nat} {c m m9 : ME} {a2 e1 f0 g0 p0 n0 o0 : Int} {F H : Int → Int} {Z : AR → Prop} (hI : Iv u e P2 Q2 c) (hJ : Iv ug eg P Q m) (hJ9 : Iv ug eg P Q m9) (hA : A = 13 ∨ A = 25) (ha2 : 0 ≤ a2 ∧ a2 ≤ 6) (hq0 : (f0 = 0)) (hq1 : (g0 = (-1))) (hq2 : (o0 = a2)) (hq3 : (n0 ≤ p0)) (hq4 : (p0 ≤ e1)) (hq5 : (e1 ≤ 150)) (hq6 : ((nx F e1 p0) < e1 ∧ (F (nx F e1 p0)) ≥ 48 ∧ (F (nx F e1 p0)) ≤ 57)) (hg_e1 : m 1 1 = e1) (hr_e1 : c 41 3 = e1) (hg_f0 : m 1 4 = f0) (hg_g0 : m 1 5 = g0) (hg_p0 : m 1 2 = p0) (hg_n0 : m (A + 7) 5 = n0) (hr_n0 : c 41 29 = n0) (hr_o0 : c 41 7 = o0) (hF : ∀ j : Int, m 2 j = F j) (hH : ∀ j : Int, c 43 j = H j) (hU : Ub F H) (hRt : Rt m c) (hr0 : Ce n0 (m (A + 9)) (c 50) (c 51)) (H13 : ∀ {d9 : Nat} {c m m9 : ME} {e1 f0 g0 p0 n0 o0 : Int} {Z : AR → Prop}, d ≤ d9 → a2 + 1 ≤ 6 → (Iv u e P2 Q2 c) → (Iv ug eg P Q m) → (Iv ug eg P Q m9) → (0 ≤ (a2 + 1) ∧ (a2 + 1) ≤ 6) → ((f0 = 0)) → ((g0 = (-1))) → ((o0 = (a2 + 1))) → ((n0 ≤ p0)) → ((p0 ≤ e1)) → ((e1 ≤ 150)) → (m 1 1 = e1) → (c 41 3 = e1) → (m 1 4 = f0) → (m 1 5 = g0) → (m 1 2 = p0) → (m (A + 7) 5 = n0) → (c 41 29 = n0) → (c 41 7 = o0) → (∀ j : Int, m 2 j = F j) → (∀ j : Int, c 43 j = H j) → (Ub F H) → (Rt m c) → (Ce n0 (m (A + 9)) (c 50) (c 51)) → (Wp sc (dh + 33) 13 0 [(0, .ref (A + 7)), (1, .ref 1), (2, vi (a2 + 1))] [] (Wd P Q P P m) 0 0 (fun q => q = (.inl (none), Wd P Q P P m9, 0, 0))) → (∀ (c2 : ME), Iv u e P2 Q2 c2 → (∀ (a : Nat) (j : Int), ¬ ((a = 41 ∧ j = 4) ∨ (a = 41 ∧ j = 5) ∨ (a = 41 ∧ j = 6) ∨ (a = 41 ∧ j = 7) ∨ (a = 41 ∧ j = 29) ∨ a = 50 ∨ a = 51) → c2 a j = c a j) → (Rt m9 c2) → ((m9 1 4 < 0) ∨ (m9 1 4 > 0) ∨ (m9 (A + 7) 5 = c2 41 29 ∧ c2 41 29 + p0 ≤ m9 1 2 + n0 ∧ m9 1 2 ≤ e1 ∧ m9 1 2 ≥ p0)) → ((c2 41 7 = (a2 + 1))) → (m9 1 4 = 0 → Ce (c2 41 29) (m9 (A + 9)) (c2 50) (c2 51)) → Z (.inl (none), Wd P2 Q2 P2 P2 c2, 0, 0)) → Wp sc (d9 + 32) 174 0 [(0, .ref 41)] [] (Wd P2 Q2 P2 P2 c) 0 0 Z) (hG : Wp sc (dh + 34) 14 0 [(0, .ref (A + 7)), (1, .ref 1), (2, vi a2)] [] (Wd P Q P P m) 0 0 (fun q => q = (.inl (none), Wd P Q P P m9, 0, 0))) (K : ∀ (c2 : ME), Iv u e P2 Q2 c2 → (∀ (a : Nat) (j : Int), ¬ ((a = 41 ∧ j = 4) ∨ (a = 41 ∧ j = 5) ∨ (a = 41 ∧ j = 6) ∨ (a = 41 ∧ j = 7) ∨ (a = 41 ∧ j = 29) ∨ a = 50 ∨ a = 51) → c2 a j = c a j) → (Rt m9 c2) → ((m9 1 4 < 0) ∨ (m9 1 4 > 0) ∨ (m9 (A + 7) 5 = c2 41 29 ∧ c2 41 29 + p0 ≤ m9 1 2 + n0 ∧ m9 1 2 ≤ e1 ∧ m9 1 2 ≥ p0)) → ((c2 41 7 = a2)) → (m9 1 4 = 0 → Ce (c2 41 29) (m9 (A + 9)) (c2 50) (c2 51)) → Z (.inl (none), Wd P2 Q2 P2 P2 c2, 0, 0)) : Wp sc (d + 34) 176 0 [(0, .ref 41)] [] (Wd P2 Q2 P2 P2 c) 0 0 Z := by
  have hP := iv_P hJ
  have hQ := iv_Q hJ
  have h_1 := ir_1_1 hJ
  have h_2 := ir_41_3 hI
  have h_3 := ir_1_4 hJ
  have h_4 := ir_1_5 hJ
  have h_5 := ir_1_2 hJ
  have h_6 := ir_p7_5 hJ hA
  have h_7 := ir_41_29 hI
  have h_8 := ir_41_7 hI
  refine gh hG ?_
  refine q_aload_n rfl rfl ?_
  have h_9 : -2147483648 ≤ (F p0) ∧ (F p0) ≤ 2147483647 := by rw [← hF p0]; exact ir_2 hJ p0
  have h_10 := nx_be (b := F) (e := e1) (a := p0) (by first | (clear ha2 hq0 hq1 hq2 hq3 hq5 hq6 h_1 h_2 h_3 h_4 h_5 h_6 h_7 h_8 h_9; omega) | omega)
  have h_11 : -2147483648 ≤ (F (nx F e1 p0)) ∧ (F (nx F e1 p0)) ≤ 2147483647 := by rw [← hF (nx F e1 p0)]; exact ir_2 hJ (nx F e1 p0)
  have h_12 := nx_n (b := F) (e := e1) (a := p0)
  refine v_cv rfl rfl rfl rfl (by decide) ⟨⟨rfl, rfl⟩, by decide, rfl⟩ (Nat.le_of_ble_eq_true rfl) (Nat.le_of_ble_eq_true rfl) (f_6 (e1 := e1) (a9 := p0) (B := F) (r8 := (nx F e1 p0)) hJ ((hg_e1)) ((hg_p0)) (fun j => hF j) rfl (fun c_13 hI_14 hF_15 h_16 hz_17 => ?_) (fun c_18 hI_19 hF_20 h_21 hz_22 => by exfalso; omega))
  refine bk_inl ?_
  refine v_if_eq_f (t := 19) rfl (by decide) (by decide) ?_
  refine q_aload_n rfl rfl ?_
  refine q_aload_n rfl rfl ?_
  refine v_sip rfl (by decide) ?_
  have kn_23 : Hid (c_13 1 4 = f0) := (hF_15 1 4 (fun h => absurd h.2 (ni rfl))).trans (hg_f0)
  refine v_cv rfl rfl rfl rfl (by decide) ⟨⟨rfl, rfl⟩, by decide, rfl⟩ (Nat.le_of_ble_eq_true rfl) (Nat.le_of_ble_eq_true rfl) (fn_of (s_8 (a1 := 999) hI_14 (show (-1) ≤ 999 ∧ 999 ≤ 9999 from ⟨by decide, by decide⟩) (fun c_24 y_27 hI_25 hF_26 hy_27 h_28 => ?_)))
  intro hG_29
  refine bk_inl ?_
  refine v_cv rfl rfl rfl (ck_p7 hA) (a68 hA rfl) ⟨⟨rfl, rfl⟩, by decide, rfl⟩ (Nat.le_of_ble_eq_true rfl) (Nat.le_of_ble_eq_true rfl) ?_
  refine q_aload_n rfl rfl ?_
  have kn_30 : Hid (c_13 (A + 7) 5 = n0) := (hF_15 (A + 7) 5 (fun h => absurd h.1 (np hA rfl rfl))).trans (hg_n0)
  have kn_31 : Hid (c_24 (A + 7) 5 = n0) := (hF_26 (A + 7) 5 (fun q => q.elim (fun h => absurd h.1 (np hA rfl rfl)) (fun q => q.elim (fun h => absurd h.1 (np hA rfl rfl)) (fun h => absurd h.1 (np hA rfl rfl))))).trans (hid kn_30)
  refine v_gi (z := 5) (v := n0) rfl rfl (ck_p7 hA) (a68 hA rfl) rfl rfl (hid kn_31) ?_
  refine q_aload_n rfl rfl ?_
  refine v_gr (t := (A + 9)) rfl rfl (ck_p7 hA) (a68 hA rfl) rfl ?_
  refine v_al rfl (ck_p9 hA) (a68 hA rfl) (by decide) ?_
  refine v_ic_ge_f (t := 32) rfl (by decide) ⟨(Int.le_trans (by decide) (rg_eq hg_n0 h_6).1), by first | (clear ha2 hq0 hq1 hq2 hq4 h_1 h_2 h_3 h_4 h_5 h_6 h_7 h_8 h_9 h_11 h_16 h_12 h_28; omega) | omega, by decide⟩ ?_
  refine q_aload_n rfl rfl ?_
  refine v_gr (t := (A + 9)) rfl rfl (ck_p7 hA) (a68 hA rfl) rfl ?_
  refine q_aload_n rfl rfl ?_
  refine v_gi (z := 5) (v := n0) rfl rfl (ck_p7 hA) (a68 hA rfl) rfl rfl (hid kn_31) ?_
  refine q_iload_n rfl rfl ?_
  refine v_is rfl (ck_p9 hA) (a68 hA rfl) (by decide) (by omega) ?_
  refine q_aload_n rfl rfl ?_
  refine q_dup rfl rfl ?_
  refine v_gi (z := 5) (v := n0) rfl rfl (ck_p7 hA) (a68 hA rfl) rfl rfl ((up_c (pp rfl)).trans (hid kn_31)) ?_
  refine q_iconst rfl ?_
  refine v_iadd (v := n0 + 1) rfl rfl ?_
  refine v_pi (z := 5) rfl rfl (ck_p7 hA) (a68 hA rfl) rfl rfl rfl (by decide) ?_
  refine q_vret rfl rfl ?_
  refine bk_inl ?_
  refine q_vret rfl rfl ?_
  have hI_32 := iw_lg (j := n0) (v := y_27) hI_25 (lgp (k := 9) hA (by decide)) ⟨by omega, by omega⟩ (by omega)
  have hI_33 := iw_p7_5 (v := n0 + 1) hI_32 hA ⟨by first | exact rgp_l (rg_eq hg_n0 h_6).1 (by decide) | omega, by first | (clear ha2 hq0 hq1 hq2 hq4 h_1 h_2 h_3 h_4 h_5 h_6 h_7 h_8 h_9 h_11 h_16 h_12 h_28; omega) | omega⟩
  intro hE_34
  have hW : Wd P Q P P (up (up c_24 (A + 9) n0 y_27) (A + 7) 5 (n0 + 1)) = Wd P Q P P m9 := (Prod.mk.inj (Prod.mk.inj hE_34).2).1
  have h_35 := ir_1_4 hI_25
  have h_36 := ir_1_4 hJ9
  have h_37 : m9 1 4 = c_24 1 4 := wd_fv (z := 4) 4 rfl hW rfl rfl rfl rfl (by decide) ((up_c (pn hA rfl rfl)).trans (up_c (pn hA rfl rfl))) ⟨(Int.le_trans (by decide) h_35.1), (Int.le_trans h_35.2 (by decide))⟩ ⟨(Int.le_trans (by decide) h_36.1), (Int.le_trans h_36.2 (by decide))⟩
  have h_38 := ir_1_2 hI_25
  have h_39 := ir_1_2 hJ9
  have h_40 : m9 1 2 = c_24 1 2 := wd_fv (z := 2) 2 rfl hW rfl rfl rfl rfl (by decide) ((up_c (pn hA rfl rfl)).trans (up_c (pn hA rfl rfl))) ⟨(Int.le_trans (by decide) h_38.1), (Int.le_trans h_38.2 (by decide))⟩ ⟨(Int.le_trans (by decide) h_39.1), (Int.le_trans h_39.2 (by decide))⟩
  have h_41 := ir_1_5 hI_25
  have h_42 := ir_1_5 hJ9
  have h_43 : m9 1 5 = c_24 1 5 := wd_fv (z := 5) 5 rfl hW rfl rfl rfl rfl (by decide) ((up_c (pn hA rfl rfl)).trans (up_c (pn hA rfl rfl))) ⟨(Int.le_trans (by decide) h_41.1), (Int.le_trans h_41.2 (by decide))⟩ ⟨(Int.le_trans (by decide) h_42.1), (Int.le_trans h_42.2 (by decide))⟩
  have h_44 := ir_p7_5 hJ9 hA
  have h_45 : m9 (A + 7) 5 = n0 + 1 := wd_fv (z := 5) 5 rfl hW (ck_p7 hA) (ck_p7 hA) rfl rfl (by omega) (up_e rfl) ⟨by first | exact rgp_l (rg_eq hg_n0 h_6).1 (by decide) | omega, by first | exact rgp_h (rg_eq hg_n0 h_6).2 (by decide) | omega⟩ ⟨(Int.le_trans (by decide) h_44.1), (Int.le_trans h_44.2 (by decide))⟩
  refine q_aload_n rfl rfl ?_
  refine v_cv rfl rfl rfl rfl (by decide) ⟨⟨rfl, rfl⟩, by decide, rfl⟩ (Nat.le_of_ble_eq_true rfl) (Nat.le_of_ble_eq_true rfl) ?_
  refine q_aload_n rfl rfl ?_
  have h_46 := ir_41_5 hI
  have h_47 := ir_41_4 hI
  have h_48 := ir_41_6 hI
  have h_49 := rt_ok hRt (by omega)
  have hro_hRt := rt_ok hRt (by omega)
  refine v_gi (z := 5) (v := (-1)) rfl rfl rfl (by decide) rfl rfl hro_hRt.2.1 ?_
  refine q_iconst rfl ?_
  refine v_ic_ne_f (t := 12) rfl (by decide) (by decide) ?_
  refine q_iconst rfl ?_
  refine q_goto (t := 13) rfl (by decide) ?_
  refine v_zret rfl rfl (by decide) ?_
  refine bk_inl ?_
  refine v_if_ne_t (t := 8) rfl (by decide) (by decide) ?_
  refine q_aload_n rfl rfl ?_
  have h_50 : -2147483648 ≤ (H (nx F e1 p0)) ∧ (H (nx F e1 p0)) ≤ 2147483647 := by rw [← hH (nx F e1 p0)]; exact ir_43 hI (nx F e1 p0)
  have h_51 := hU (nx F e1 p0) (by omega) (by omega)
  have h_52 := hb_or (b := H) (e := e1) (r := (nx F e1 p0))
  have h_53 := hb_bd (b := H) (e := e1) (r := (nx F e1 p0)) (lo := -2147483648) (hi := 2147483647) h_50 (by decide)
  refine v_cv rfl rfl rfl rfl (by decide) ⟨⟨rfl, rfl⟩, by decide, rfl⟩ (Nat.le_of_ble_eq_true rfl) (Nat.le_of_ble_eq_true rfl) (f_154 (e1 := e1) (a9 := p0) (B := H) (r8 := (nx F e1 p0)) (r := (hb H e1 (nx F e1 p0))) hI ((hr_e1)) (((hro_hRt.2.2.1).trans ((hg_p0)))) (fun j => hH j) ((nx_tr hU (by first | (clear ha2 hq0 hq1 hq2 hq3 hq4 hq5 hq6 h_1 h_2 h_3 h_4 h_6 h_7 h_8 h_9 h_10 h_11 h_16 h_35 h_36 h_37 h_38 h_39 h_40 h_41 h_42 h_43 h_44 h_45 h_46 h_47 h_48 h_49 h_12 h_28; omega) | omega) (by first | (clear ha2 hq0 hq1 hq2 hq3 hq4 hq6 h_1 h_2 h_3 h_4 h_5 h_6 h_7 h_8 h_9 h_10 h_11 h_16 h_35 h_36 h_37 h_38 h_39 h_40 h_41 h_42 h_43 h_44 h_45 h_46 h_47 h_48 h_49 h_12 h_28; omega) | omega)).trans (rfl)) rfl (fun c_54 hI_55 hF_56 h_57 => ?_))
  refine bk_inl ?_
  refine v_bip rfl (by decide) ?_
  refine v_ic_ne_t (t := 45) rfl (by decide) ⟨by first | (clear ha2 hq0 hq1 hq2 hq3 h_3 h_4 h_5 h_6 h_7 h_8 h_9 h_11 h_35 h_36 h_37 h_38 h_39 h_40 h_41 h_42 h_43 h_44 h_45 h_46 h_47 h_48 h_49 h_28; omega) | omega, ⟨h_53.1, h_53.2⟩, by decide, by decide⟩ ?_
  refine q_aload_n rfl rfl ?_
  have kn_58 : Hid (c_54 41 3 = e1) := (hF_56 41 3 (fun h => absurd h.2 (ni rfl))).trans (hr_e1)
  refine v_cv rfl rfl rfl rfl (by decide) ⟨⟨rfl, rfl⟩, by decide, rfl⟩ (Nat.le_of_ble_eq_true rfl) (Nat.le_of_ble_eq_true rfl) (f_154 (e1 := e1) (a9 := (nx F e1 p0)) (B := H) (r8 := (nx F e1 p0)) (r := (hb H e1 (nx F e1 p0))) hI_55 ((hid kn_58)) ((h_57)) (fun j => (hF_56 43 j (fun h => absurd h.1 (nn rfl))).trans (hH j)) ((nx_tr hU (by first | (clear ha2 hq0 hq1 hq2 hq3 hq4 hq5 hq6 h_1 h_2 h_3 h_4 h_6 h_7 h_8 h_9 h_11 h_16 h_35 h_36 h_37 h_38 h_39 h_40 h_41 h_42 h_43 h_44 h_45 h_46 h_47 h_48 h_49 h_50 h_51 h_53 h_12 h_28 h_52; omega) | omega) (by first | (clear ha2 hq0 hq1 hq2 hq3 hq4 hq6 h_1 h_2 h_3 h_4 h_5 h_6 h_7 h_8 h_9 h_10 h_11 h_16 h_35 h_36 h_37 h_38 h_39 h_40 h_41 h_42 h_43 h_44 h_45 h_46 h_47 h_48 h_49 h_50 h_51 h_53 h_12 h_28 h_52; omega) | omega)).trans ((nx_z (by omega)))) rfl (fun c_59 hI_60 hF_61 h_62 => ?_))
  refine bk_inl ?_
  refine q_call rfl rfl rfl rfl (f_156 (a0 := (hb H e1 (nx F e1 p0))) hI_60 (show (-2147483648) ≤ (hb H e1 (nx F e1 p0)) ∧ (hb H e1 (nx F e1 p0)) ≤ 2147483647 from h_53) (fun y_63 hy_63 h_64 => ?_))
  refine bk_inl ?_
  refine v_if_eq_f (t := 71) rfl (by decide) ⟨by first | (clear ha2 hq0 hq1 hq2 hq3 h_3 h_4 h_5 h_6 h_7 h_8 h_9 h_11 h_35 h_36 h_37 h_38 h_39 h_40 h_41 h_42 h_43 h_44 h_45 h_46 h_47 h_48 h_49 h_28; omega) | omega, ⟨(Int.le_trans (by decide) hy_63.1), (Int.le_trans hy_63.2 (by decide))⟩, by decide, by decide⟩ ?_
  refine q_aload_n rfl rfl ?_
  refine q_iconst rfl ?_
  refine q_aload_n rfl rfl ?_
  refine q_iconst rfl ?_
  refine v_sip rfl (by decide) ?_
  have kn_65 : Hid (c_13 1 1 = e1) := (hF_15 1 1 (fun h => absurd h.2 (ni rfl))).trans (hg_e1)
  have kn_66 : Hid (c_59 41 3 = e1) := (hF_61 41 3 (fun h => absurd h.2 (ni rfl))).trans (hid kn_58)
  have h_67 : c_13 1 4 = f0 := (hid kn_23)
  have h_68 : c_13 1 2 = (nx F e1 p0) := (hz_17)
  have kn_69 : Hid (c_13 1 5 = g0) := (hF_15 1 5 (fun h => absurd h.2 (ni rfl))).trans (hg_g0)
  have h_70 : c_13 1 5 = g0 := (hid kn_69)
  have kn_71 : Hid (c_54 41 5 = (-1)) := (hF_56 41 5 (fun h => absurd h.2 (ni rfl))).trans hro_hRt.2.1
  have kn_72 : Hid (c_59 41 5 = (-1)) := (hF_61 41 5 (fun h => absurd h.2 (ni rfl))).trans (hid kn_71)
  have h_73 : c_59 41 5 = (-1) := (hid kn_72)
  have h_74 : c_59 41 4 = (nx F e1 p0) := (h_62)
  have kn_75 : Hid (c_54 41 6 = c 41 6) := hF_56 41 6 (fun h => absurd h.2 (ni rfl))
  have kn_76 : Hid (c_59 41 6 = c 41 6) := (hF_61 41 6 (fun h => absurd h.2 (ni rfl))).trans (hid kn_75)
  have h_77 : c_59 41 6 = c 41 6 := (hid kn_76)
  refine v_cv rfl rfl rfl rfl (by decide) ⟨⟨rfl, rfl⟩, by decide, rfl⟩ (Nat.le_of_ble_eq_true rfl) (Nat.le_of_ble_eq_true rfl) (L_8 (m := c_13) (a2 := 999) (yg := y_27) (e1 := e1) (a9 := (nx F e1 p0)) (f0 := f0) (F := F) (H := H) hI_60 hI_14 hI_25 (show (-1) ≤ 999 ∧ 999 ≤ 9999 from ⟨by decide, by decide⟩) ⟨by omega, by omega⟩ ((hid kn_65)) ((hid kn_66)) ((hz_17)) ((hid kn_23)) (fun j => (hF_15 2 j (fun h => absurd h.1 (nn rfl))).trans (hF j)) (fun j => ((hF_61 43 j (fun h => absurd h.1 (nn rfl))).trans (hF_56 43 j (fun h => absurd h.1 (nn rfl)))).trans (hH j)) hU (rt_i1 ⟨by first | (clear ha2 hq1 hq2 hq3 hq4 hq5 hq6 h_1 h_2 h_3 h_4 h_5 h_6 h_7 h_8 h_9 h_10 h_11 h_16 h_35 h_36 h_37 h_38 h_39 h_40 h_41 h_42 h_43 h_44 h_45 h_46 h_47 h_48 h_49 h_50 h_51 h_53 h_12 h_28 h_52 h_64; omega) | omega, by first | (clear ha2 hq0 hq1 hq2 hq3 hq4 hq5 hq6 h_1 h_2 h_3 h_4 h_5 h_6 h_7 h_8 h_9 h_10 h_11 h_16 h_35 h_36 h_37 h_38 h_39 h_40 h_41 h_42 h_43 h_44 h_45 h_46 h_47 h_48 h_49 h_50 h_51 h_53 h_12 h_28 h_52 h_64; omega) | omega, by first | (clear ha2 hq0 hq1 hq2 hq3 hq4 hq5 hq6 h_1 h_2 h_3 h_4 h_5 h_6 h_7 h_8 h_9 h_10 h_11 h_16 h_35 h_36 h_37 h_38 h_39 h_40 h_41 h_42 h_43 h_44 h_45 h_46 h_47 h_48 h_49 h_50 h_51 h_53 h_12 h_28 h_52 h_64; omega) | omega, by first | (clear ha2 hq0 hq2 hq3 hq4 hq5 hq6 h_1 h_2 h_3 h_4 h_5 h_6 h_7 h_8 h_9 h_10 h_11 h_16 h_35 h_36 h_37 h_38 h_39 h_40 h_41 h_42 h_43 h_44 h_45 h_46 h_47 h_48 h_49 h_50 h_51 h_53 h_12 h_28 h_52 h_64; omega) | omega⟩) hG_29 (fun c_78 y_81 hI_79 hF_80 hy_81 hR_82 h_83 h_84 h_85 h_86 => ?_))
  refine bk_inl ?_
  have hs_87 := h_83.symm
  subst hs_87
  refine v_cv rfl rfl rfl rfl (by decide) ⟨⟨rfl, rfl⟩, by decide, rfl⟩ (Nat.le_of_ble_eq_true rfl) (Nat.le_of_ble_eq_true rfl) ?_
  refine q_aload_n rfl rfl ?_
  refine v_cv rfl rfl rfl rfl (by decide) ⟨⟨rfl, rfl⟩, by decide, rfl⟩ (Nat.le_of_ble_eq_true rfl) (Nat.le_of_ble_eq_true rfl) ?_
  refine q_aload_n rfl rfl ?_
  have h_88 := ir_41_5 hI_79
  have h_89 := ir_41_4 hI_79
  have h_90 := ir_41_6 hI_79
  have h_91 := rt_or hR_82
  refine v_gi (z := 5) (v := c_78 41 5) rfl rfl rfl (by decide) rfl rfl rfl ?_
  refine q_iconst rfl ?_
  by_cases h_92 : c_78 41 5 ≠ (-1)
  · refine v_ic_ne_t (t := 12) rfl (by decide) ⟨h_92, ⟨(Int.le_trans (by decide) h_88.1), (Int.le_trans h_88.2 (by decide))⟩, by decide, by decide⟩ ?_
    refine q_iconst rfl ?_
    refine v_zret rfl rfl (by decide) ?_
    refine bk_inl ?_
    refine v_if_ne_f (t := 8) rfl (by decide) (by decide) ?_
    refine q_vret rfl rfl ?_
    refine bk_inl ?_
    refine q_goto (t := 154) rfl (by decide) ?_
    refine q_vret rfl rfl ?_
    have hrb_hR_82 := rt_bad hR_82 (by omega)
    have h_93 : c_78 41 5 = c_24 1 5 := hrb_hR_82.2.1
    have h_94 : c_78 41 6 = c_24 1 4 := hrb_hR_82.2.2.2
    have kn_95 : Hid (c_54 41 29 = n0) := (hF_56 41 29 (fun h => absurd h.2 (ni rfl))).trans (hr_n0)
    have kn_96 : Hid (c_59 41 29 = n0) := (hF_61 41 29 (fun h => absurd h.2 (ni rfl))).trans (hid kn_95)
    have kn_97 : Hid (c_78 41 29 = n0) := (hF_80 41 29 (fun q => q.elim (fun h => absurd h.2 (ni rfl)) (fun q => q.elim (fun h => absurd h.2 (ni rfl)) (fun h => absurd h.2 (ni rfl))))).trans (hid kn_96)
    have h_98 : c_78 41 29 = n0 := (hid kn_97)
    have kn_99 : Hid (c_54 41 7 = o0) := (hF_56 41 7 (fun h => absurd h.2 (ni rfl))).trans (hr_o0)
    have kn_100 : Hid (c_59 41 7 = o0) := (hF_61 41 7 (fun h => absurd h.2 (ni rfl))).trans (hid kn_99)
    have kn_101 : Hid (c_78 41 7 = o0) := (hF_80 41 7 (fun q => q.elim (fun h => absurd h.2 (ni rfl)) (fun q => q.elim (fun h => absurd h.2 (ni rfl)) (fun h => absurd h.2 (ni rfl))))).trans (hid kn_100)
    have h_102 : c_78 41 7 = o0 := (hid kn_101)
    have h_103 : c_78 41 29 = n0 := (hid kn_97)
    exact K c_78  hI_79 (fun a j hm => (hF_80 a j (fun q => q.elim (fun h => hm (Or.inl h)) (fun q => q.elim (fun h => hm (Or.inr (Or.inl h))) (fun h => hm (Or.inr (Or.inr (Or.inl h))))))).trans ((hF_61 a j (fun h => hm (Or.inl h))).trans (hF_56 a j (fun h => hm (Or.inl h))))) (rt_i2 ⟨⟨by first | (clear ha2 hq1 hq2 hq3 h_4 h_5 h_6 h_7 h_8 h_9 h_11 h_39 h_42 h_44 h_45 h_46 h_47 h_48 h_49 h_50 h_51 h_53 h_64; omega) | omega, by first | (clear ha2 hq0 hq1 hq2 hq3 hq4 hq5 hq6 h_1 h_2 h_3 h_4 h_5 h_6 h_7 h_8 h_9 h_10 h_11 h_16 h_35 h_37 h_38 h_39 h_40 h_41 h_42 h_43 h_44 h_45 h_46 h_47 h_48 h_49 h_50 h_51 h_53 h_88 h_89 h_90 h_12 h_28 h_52 h_64 h_84 h_85 h_86 h_91 h_92; omega) | omega⟩, by first | (clear ha2 hq0 hq1 hq2 hq3 hq4 hq5 hq6 h_1 h_2 h_3 h_4 h_5 h_6 h_7 h_8 h_9 h_10 h_11 h_16 h_35 h_36 h_37 h_38 h_39 h_40 h_41 h_42 h_44 h_45 h_46 h_47 h_48 h_49 h_50 h_51 h_53 h_88 h_89 h_90 h_12 h_28 h_52 h_64 h_84 h_85 h_86 h_91 h_92; omega) | omega, by first | (clear ha2 hq0 hq1 hq2 hq3 hq4 hq5 hq6 h_1 h_2 h_3 h_4 h_5 h_6 h_7 h_8 h_9 h_10 h_11 h_16 h_36 h_39 h_44 h_45 h_46 h_47 h_48 h_49 h_50 h_51 h_53 h_12 h_28 h_52 h_64; omega) | omega, by first | (clear ha2 hq0 hq1 hq2 hq3 hq4 hq5 hq6 h_1 h_2 h_3 h_4 h_5 h_6 h_7 h_8 h_9 h_10 h_11 h_16 h_35 h_36 h_38 h_39 h_40 h_41 h_42 h_43 h_44 h_45 h_46 h_47 h_48 h_49 h_50 h_51 h_53 h_88 h_89 h_90 h_12 h_28 h_52 h_64 h_84 h_85 h_86 h_91 h_92; omega) | omega⟩) (Or.inr (Or.inl (by first | (clear ha2 hq1 hq2 hq3 h_4 h_5 h_6 h_7 h_8 h_9 h_11 h_39 h_42 h_44 h_45 h_46 h_47 h_48 h_49 h_50 h_51 h_53 h_64; omega) | omega))) (by first | (clear ha2 hq0 hq1 hq3 hq4 hq5 hq6 h_1 h_2 h_3 h_4 h_5 h_6 h_7 h_8 h_9 h_10 h_11 h_16 h_35 h_36 h_37 h_38 h_39 h_40 h_41 h_42 h_43 h_44 h_45 h_46 h_47 h_48 h_49 h_50 h_51 h_53 h_88 h_89 h_90 h_12 h_28 h_52 h_64 h_84 h_85 h_86 h_91 h_92; omega) | omega) (fun hz => absurd hz (by omega))
  · refine v_ic_ne_f (t := 12) rfl (by decide) (Decidable.not_not.mp h_92) ?_
    refine q_iconst rfl ?_
    refine q_goto (t := 13) rfl (by decide) ?_
    refine v_zret rfl rfl (by decide) ?_
    refine bk_inl ?_
    refine v_if_ne_t (t := 8) rfl (by decide) (by decide) ?_
    refine q_aload_n rfl rfl ?_
    refine v_gr (t := 50) rfl rfl rfl (by decide) rfl ?_
    refine q_aload_n rfl rfl ?_
    have kn_104 : Hid (c_54 41 29 = n0) := (hF_56 41 29 (fun h => absurd h.2 (ni rfl))).trans (hr_n0)
    have kn_105 : Hid (c_59 41 29 = n0) := (hF_61 41 29 (fun h => absurd h.2 (ni rfl))).trans (hid kn_104)
    have kn_106 : Hid (c_78 41 29 = n0) := (hF_80 41 29 (fun q => q.elim (fun h => absurd h.2 (ni rfl)) (fun q => q.elim (fun h => absurd h.2 (ni rfl)) (fun h => absurd h.2 (ni rfl))))).trans (hid kn_105)
    refine v_gi (z := 29) (v := n0) rfl rfl rfl (by decide) rfl rfl (hid kn_106) ?_
    refine q_iload_n rfl rfl ?_
    refine v_is rfl rfl (by decide) (by decide) (by omega) ?_
    refine q_aload_n rfl rfl ?_
    refine v_gr (t := 51) rfl rfl rfl (by decide) rfl ?_
    refine q_aload_n rfl rfl ?_
    refine v_gi (z := 29) (v := n0) rfl rfl rfl (by decide) rfl rfl ((up_c (nn rfl)).trans (hid kn_106)) ?_
    refine q_iload_n rfl rfl ?_
    refine v_is rfl rfl (by decide) (by decide) (by omega) ?_
    refine q_aload_n rfl rfl ?_
    refine q_dup rfl rfl ?_
    refine v_gi (z := 29) (v := n0) rfl rfl rfl (by decide) rfl rfl ((up_c (nn rfl)).trans ((up_c (nn rfl)).trans (hid kn_106))) ?_
    refine q_iconst rfl ?_
    refine v_iadd (v := n0 + 1) rfl rfl ?_
    refine v_pi (z := 29) rfl rfl rfl (by decide) rfl rfl rfl (by decide) ?_
    refine q_vret rfl rfl ?_
    refine bk_inl ?_
    refine q_goto (t := 154) rfl (by decide) ?_
    refine q_vret rfl rfl ?_
    have hI_107 := iw_50 (j := n0) (v := 0) hI_79 ⟨by decide, by decide⟩
    have hI_108 := iw_51 (j := n0) (v := y_27) hI_107 ⟨hy_27.1, by first | (clear ha2 hq0 hq1 hq2 hq3 hq4 hq5 hq6 h_1 h_2 h_3 h_4 h_5 h_6 h_7 h_8 h_9 h_10 h_11 h_16 h_35 h_36 h_37 h_38 h_39 h_40 h_41 h_42 h_43 h_44 h_45 h_46 h_47 h_48 h_49 h_50 h_51 h_53 h_88 h_89 h_90 h_12 h_52 h_64 h_84 h_85 h_91; omega) | omega⟩
    have hI_109 := iw_41_29 (v := n0 + 1) hI_108 ⟨by first | exact rgp_l (rg_eq hg_n0 h_6).1 (by decide) | omega, by first | (clear ha2 hq0 hq1 hq2 hq3 hq4 hq5 hq6 h_1 h_2 h_3 h_4 h_5 h_6 h_7 h_8 h_9 h_10 h_11 h_16 h_35 h_36 h_37 h_38 h_39 h_40 h_41 h_42 h_43 h_46 h_47 h_48 h_49 h_50 h_51 h_53 h_88 h_89 h_90 h_12 h_28 h_52 h_64 h_84 h_85 h_86 h_91; omega) | omega⟩
    have hro_hR_82 := rt_ok hR_82 (by omega)
    have h_110 : (up (up (up c_78 50 n0 0) 51 n0 y_27) 41 29 (n0 + 1)) 41 5 = (-1) := ((((up_n (by decide)).trans ((up_c (nn rfl)).trans (up_c (nn rfl))))).trans (hro_hR_82.2.1))
    have h_111 : (up (up (up c_78 50 n0 0) 51 n0 y_27) 41 29 (n0 + 1)) 41 4 = c_24 1 2 := ((((up_n (by decide)).trans ((up_c (nn rfl)).trans (up_c (nn rfl))))).trans (hro_hR_82.2.2.1))
    have h_112 : (up (up (up c_78 50 n0 0) 51 n0 y_27) 41 29 (n0 + 1)) 41 6 = c_78 41 6 := ((up_n (by decide)).trans ((up_c (nn rfl)).trans (up_c (nn rfl))))
    have h_113 : (up (up (up c_78 50 n0 0) 51 n0 y_27) 41 29 (n0 + 1)) 41 29 = n0 + 1 := (up_e rfl)
    have kn_114 : Hid (c_54 41 7 = o0) := (hF_56 41 7 (fun h => absurd h.2 (ni rfl))).trans (hr_o0)
    have kn_115 : Hid (c_59 41 7 = o0) := (hF_61 41 7 (fun h => absurd h.2 (ni rfl))).trans (hid kn_114)
    have kn_116 : Hid (c_78 41 7 = o0) := (hF_80 41 7 (fun q => q.elim (fun h => absurd h.2 (ni rfl)) (fun q => q.elim (fun h => absurd h.2 (ni rfl)) (fun h => absurd h.2 (ni rfl))))).trans (hid kn_115)
    have h_117 : (up (up (up c_78 50 n0 0) 51 n0 y_27) 41 29 (n0 + 1)) 41 7 = o0 := ((up_n (by decide)).trans ((up_c (nn rfl)).trans ((up_c (nn rfl)).trans (hid kn_116))))
    have h_118 : (up (up (up c_78 50 n0 0) 51 n0 y_27) 41 29 (n0 + 1)) 41 29 = n0 + 1 := (up_e rfl)
    have hA_119 : Ce (n0 + 1) ((up (up c_24 (A + 9) n0 y_27) (A + 7) 5 (n0 + 1)) (A + 9)) ((up (up (up c_78 50 n0 0) 51 n0 y_27) 41 29 (n0 + 1)) 50) ((up (up (up c_78 50 n0 0) 51 n0 y_27) 41 29 (n0 + 1)) 51) := ce_w (i := n0) (v := y_27) (w := 0) (o := y_27) hr0 (by omega) ((up_c (pp rfl)).trans (up_e rfl)) ((up_c (nn rfl)).trans ((up_c (nn rfl)).trans (up_e rfl))) ((up_c (nn rfl)).trans (up_e rfl)) (fun j hj => (up_c (pp rfl)).trans ((up_n hj).trans ((hF_26 (A + 9) j (fun q => q.elim (fun h => absurd h.1 (np hA rfl rfl)) (fun q => q.elim (fun h => absurd h.1 (np hA rfl rfl)) (fun h => absurd h.1 (np hA rfl rfl))))).trans (hF_15 (A + 9) j (fun h => absurd h.1 (np hA rfl rfl)))))) (fun j hj => (up_c (nn rfl)).trans ((up_c (nn rfl)).trans ((up_n hj).trans ((hF_80 50 j (fun q => q.elim (fun h => absurd h.1 (nn rfl)) (fun q => q.elim (fun h => absurd h.1 (nn rfl)) (fun h => absurd h.1 (nn rfl))))).trans ((hF_61 50 j (fun h => absurd h.1 (nn rfl))).trans (hF_56 50 j (fun h => absurd h.1 (nn rfl)))))))) (fun j hj => (up_c (nn rfl)).trans ((up_n hj).trans ((up_c (nn rfl)).trans ((hF_80 51 j (fun q => q.elim (fun h => absurd h.1 (nn rfl)) (fun q => q.elim (fun h => absurd h.1 (nn rfl)) (fun h => absurd h.1 (nn rfl))))).trans ((hF_61 51 j (fun h => absurd h.1 (nn rfl))).trans (hF_56 51 j (fun h => absurd h.1 (nn rfl)))))))) (cr_i0 ⟨by first | (clear ha2 hq0 hq1 hq2 hq3 hq4 hq5 hq6 h_1 h_2 h_3 h_4 h_5 h_6 h_7 h_8 h_9 h_10 h_11 h_16 h_35 h_36 h_37 h_38 h_39 h_40 h_41 h_42 h_43 h_44 h_45 h_46 h_47 h_48 h_49 h_50 h_51 h_53 h_88 h_89 h_90 h_12 h_28 h_52 h_64 h_84 h_85 h_86 h_91; omega) | omega, by first | (clear ha2 hq0 hq1 hq2 hq3 hq4 hq5 hq6 h_1 h_2 h_3 h_4 h_5 h_6 h_7 h_8 h_9 h_10 h_11 h_16 h_35 h_36 h_37 h_38 h_39 h_40 h_41 h_42 h_43 h_44 h_45 h_46 h_47 h_48 h_49 h_50 h_51 h_53 h_88 h_89 h_90 h_12 h_52 h_64 h_84 h_85 h_91; omega) | omega, by decide, by first | (clear ha2 hq0 hq1 hq2 hq3 hq4 hq5 hq6 h_1 h_2 h_3 h_4 h_5 h_6 h_7 h_8 h_9 h_10 h_11 h_16 h_35 h_36 h_37 h_38 h_39 h_40 h_41 h_42 h_43 h_44 h_45 h_46 h_47 h_48 h_49 h_50 h_51 h_53 h_88 h_89 h_90 h_12 h_28 h_52 h_64 h_84 h_85 h_86 h_91; omega) | omega⟩)
    have hA_120 : Ce (n0 + 1) (m9 (A + 9)) ((up (up (up c_78 50 n0 0) 51 n0 y_27) 41 29 (n0 + 1)) 50) ((up (up (up c_78 50 n0 0) 51 n0 y_27) 41 29 (n0 + 1)) 51) := ce_l hA_119 (fun j h1 h2 => wd_av hW (ck_p9 hA) (ck_p9 hA) (by decide) (a68 hA rfl) ⟨h1, by omega⟩ rfl (ir_p9 hI_33 hA j) (ir_p9 hJ9 hA j))
    exact K (up (up (up c_78 50 n0 0) 51 n0 y_27) 41 29 (n0 + 1))  hI_109 (fun a j hm => (up_b (Decidable.or_iff_not_imp_left.mpr (fun h1 h2 => hm (Or.inr (Or.inr (Or.inr (Or.inr (Or.inl ⟨Decidable.not_not.mp h1, h2⟩)))))))).trans ((up_b (Decidable.or_iff_not_imp_left.mpr (fun h1 h2 => hm (Or.inr (Or.inr (Or.inr (Or.inr (Or.inr (Or.inr (Decidable.not_not.mp h1)))))))))).trans ((up_b (Decidable.or_iff_not_imp_left.mpr (fun h1 h2 => hm (Or.inr (Or.inr (Or.inr (Or.inr (Or.inr (Or.inl (Decidable.not_not.mp h1)))))))))).trans ((hF_80 a j (fun q => q.elim (fun h => hm (Or.inl h)) (fun q => q.elim (fun h => hm (Or.inr (Or.inl h))) (fun h => hm (Or.inr (Or.inr (Or.inl h))))))).trans ((hF_61 a j (fun h => hm (Or.inl h))).trans (hF_56 a j (fun h => hm (Or.inl h)))))))) (rt_i1 ⟨by first | (clear ha2 hq0 hq1 hq2 hq3 hq4 hq5 hq6 h_1 h_2 h_3 h_4 h_5 h_6 h_7 h_8 h_9 h_10 h_11 h_16 h_38 h_39 h_40 h_41 h_42 h_43 h_44 h_45 h_46 h_47 h_48 h_49 h_50 h_51 h_53 h_88 h_89 h_90 h_12 h_28 h_52 h_64; omega) | omega, by first | (clear ha2 hq0 hq1 hq2 hq3 hq4 hq5 hq6 h_1 h_2 h_3 h_4 h_5 h_6 h_7 h_8 h_9 h_10 h_11 h_16 h_35 h_36 h_37 h_38 h_39 h_40 h_41 h_42 h_43 h_44 h_45 h_46 h_47 h_48 h_49 h_50 h_51 h_53 h_88 h_89 h_90 h_12 h_28 h_52 h_64 h_84 h_85 h_86 h_91; omega) | omega, by first | (clear ha2 hq0 hq1 hq2 hq3 hq4 hq5 hq6 h_1 h_2 h_3 h_4 h_5 h_6 h_7 h_8 h_9 h_10 h_11 h_16 h_35 h_36 h_37 h_38 h_39 h_41 h_42 h_43 h_44 h_45 h_46 h_47 h_48 h_49 h_50 h_51 h_53 h_88 h_89 h_90 h_12 h_28 h_52 h_64 h_84 h_85 h_86 h_91; omega) | omega, by first | (clear ha2 hq0 hq1 hq2 hq3 hq4 hq5 hq6 h_1 h_2 h_3 h_4 h_5 h_6 h_7 h_8 h_9 h_10 h_11 h_16 h_35 h_36 h_37 h_38 h_39 h_40 h_44 h_45 h_46 h_47 h_48 h_49 h_50 h_51 h_53 h_88 h_89 h_90 h_12 h_28 h_52 h_64 h_84 h_85 h_86; omega) | omega⟩) (Or.inr (Or.inr ⟨by first | (clear ha2 hq0 hq1 hq2 hq3 hq4 hq5 hq6 h_1 h_2 h_3 h_4 h_5 h_6 h_7 h_8 h_9 h_10 h_11 h_16 h_35 h_36 h_37 h_38 h_39 h_40 h_41 h_42 h_43 h_44 h_46 h_47 h_48 h_49 h_50 h_51 h_53 h_88 h_89 h_90 h_12 h_28 h_52 h_64 h_84 h_85 h_86 h_91; omega) | omega, by first | (clear ha2 hq0 hq1 hq2 h_3 h_4 h_8 h_9 h_11 h_35 h_36 h_37 h_41 h_42 h_43 h_46 h_47 h_48 h_50 h_51 h_53 h_88 h_89 h_90 h_28 h_64 h_85 h_86; omega) | omega, by first | (clear ha2 hq0 hq1 hq2 h_3 h_4 h_6 h_7 h_8 h_9 h_36 h_41 h_42 h_43 h_44 h_45 h_46 h_47 h_48 h_49 h_88 h_89 h_90 h_28; omega) | omega, by first | (clear ha2 hq0 hq1 hq2 h_3 h_4 h_8 h_9 h_11 h_35 h_36 h_37 h_41 h_42 h_43 h_44 h_46 h_47 h_48 h_50 h_51 h_53 h_88 h_89 h_90 h_28 h_64 h_85 h_86; omega) | omega⟩)) (by first | (clear ha2 hq0 hq1 hq3 hq4 hq5 hq6 h_1 h_2 h_3 h_4 h_5 h_6 h_7 h_8 h_9 h_10 h_11 h_16 h_35 h_36 h_37 h_38 h_39 h_40 h_41 h_42 h_43 h_44 h_45 h_46 h_47 h_48 h_49 h_50 h_51 h_53 h_88 h_89 h_90 h_12 h_28 h_52 h_64 h_84 h_85 h_86 h_91; omega) | omega) (fun _ => ce_le hA_120 (by omega))

