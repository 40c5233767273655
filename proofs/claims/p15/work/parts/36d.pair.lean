/-! ===== class and reference side by side 5 ===== -/
set_option maxRecDepth 100000 in
set_option maxHeartbeats 4000000 in
theorem L_14_b {sc : List Int32} {e eg : Int} {d dh u ug P Q P2 Q2 A : Nat} {c m m9 : ME} {a2 e1 f0 g0 p0 n0 o0 : Int} {F H : Int → Int} {Z : AR → Prop} (hI : Iv u e P2 Q2 c) (hJ : Iv ug eg P Q m) (hJ9 : Iv ug eg P Q m9) (hA : A = 13 ∨ A = 25) (ha2 : 0 ≤ a2 ∧ a2 ≤ 6) (hq0 : (f0 = 0)) (hq1 : (g0 = (-1))) (hq2 : (o0 = a2)) (hq3 : (n0 ≤ p0)) (hq4 : (p0 ≤ e1)) (hq5 : (e1 ≤ 150)) (hq6 : ((nx F e1 p0) < e1 ∧ (F (nx F e1 p0)) = 40)) (hg_e1 : m 1 1 = e1) (hr_e1 : c 41 3 = e1) (hg_f0 : m 1 4 = f0) (hg_g0 : m 1 5 = g0) (hg_p0 : m 1 2 = p0) (hg_n0 : m (A + 7) 5 = n0) (hr_n0 : c 41 29 = n0) (hr_o0 : c 41 7 = o0) (hF : ∀ j : Int, m 2 j = F j) (hH : ∀ j : Int, c 43 j = H j) (hU : Ub F H) (hRt : Rt m c) (hr0 : Ce n0 (m (A + 9)) (c 50) (c 51)) (H13 : ∀ {d9 : Nat} {c m m9 : ME} {e1 f0 g0 p0 n0 o0 : Int} {Z : AR → Prop}, d ≤ d9 → a2 + 1 ≤ 6 → (Iv u e P2 Q2 c) → (Iv ug eg P Q m) → (Iv ug eg P Q m9) → (0 ≤ (a2 + 1) ∧ (a2 + 1) ≤ 6) → ((f0 = 0)) → ((g0 = (-1))) → ((o0 = (a2 + 1))) → ((n0 ≤ p0)) → ((p0 ≤ e1)) → ((e1 ≤ 150)) → (m 1 1 = e1) → (c 41 3 = e1) → (m 1 4 = f0) → (m 1 5 = g0) → (m 1 2 = p0) → (m (A + 7) 5 = n0) → (c 41 29 = n0) → (c 41 7 = o0) → (∀ j : Int, m 2 j = F j) → (∀ j : Int, c 43 j = H j) → (Ub F H) → (Rt m c) → (Ce n0 (m (A + 9)) (c 50) (c 51)) → (Wp sc (dh + 33) 13 0 [(0, .ref (A + 7)), (1, .ref 1), (2, vi (a2 + 1))] [] (Wd P Q P P m) 0 0 (fun q => q = (.inl (none), Wd P Q P P m9, 0, 0))) → (∀ (c2 : ME), Iv u e P2 Q2 c2 → (∀ (a : Nat) (j : Int), ¬ ((a = 41 ∧ j = 4) ∨ (a = 41 ∧ j = 5) ∨ (a = 41 ∧ j = 6) ∨ (a = 41 ∧ j = 7) ∨ (a = 41 ∧ j = 29) ∨ a = 50 ∨ a = 51) → c2 a j = c a j) → (Rt m9 c2) → ((m9 1 4 < 0) ∨ (m9 1 4 > 0) ∨ (m9 (A + 7) 5 = c2 41 29 ∧ c2 41 29 + p0 ≤ m9 1 2 + n0 ∧ m9 1 2 ≤ e1 ∧ m9 1 2 ≥ p0)) → ((c2 41 7 = (a2 + 1))) → (m9 1 4 = 0 → Ce (c2 41 29) (m9 (A + 9)) (c2 50) (c2 51)) → Z (.inl (none), Wd P2 Q2 P2 P2 c2, 0, 0)) → Wp sc (d9 + 32) 174 0 [(0, .ref 41)] [] (Wd P2 Q2 P2 P2 c) 0 0 Z) (hG : Wp sc (dh + 34) 14 0 [(0, .ref (A + 7)), (1, .ref 1), (2, vi a2)] [] (Wd P Q P P m) 0 0 (fun q => q = (.inl (none), Wd P Q P P m9, 0, 0))) (K : ∀ (c2 : ME), Iv u e P2 Q2 c2 → (∀ (a : Nat) (j : Int), ¬ ((a = 41 ∧ j = 4) ∨ (a = 41 ∧ j = 5) ∨ (a = 41 ∧ j = 6) ∨ (a = 41 ∧ j = 7) ∨ (a = 41 ∧ j = 29) ∨ a = 50 ∨ a = 51) → c2 a j = c a j) → (Rt m9 c2) → ((m9 1 4 < 0) ∨ (m9 1 4 > 0) ∨ (m9 (A + 7) 5 = c2 41 29 ∧ c2 41 29 + p0 ≤ m9 1 2 + n0 ∧ m9 1 2 ≤ e1 ∧ m9 1 2 ≥ p0)) → ((c2 41 7 = a2)) → (m9 1 4 = 0 → Ce (c2 41 29) (m9 (A + 9)) (c2 50) (c2 51)) → Z (.inl (none), Wd P2 Q2 P2 P2 c2, 0, 0)) : Wp sc (d + 34) 176 0 [(0, .ref 41)] [] (Wd P2 Q2 P2 P2 c) 0 0 Z := by
  have hP := iv_P hJ
  have hQ := iv_Q hJ
  have h_1 := ir_1_1 hJ
  have h_2 := ir_41_3 hI
  have h_3 := ir_1_4 hJ
  have h_4 := ir_1_5 hJ
  have h_5 := ir_1_2 hJ
  have h_6 := ir_p7_5 hJ hA
  have h_7 := ir_41_29 hI
  have h_8 := ir_41_7 hI
  refine gh hG ?_
  refine q_aload_n rfl rfl ?_
  have h_9 : -2147483648 ≤ (F p0) ∧ (F p0) ≤ 2147483647 := by rw [← hF p0]; exact ir_2 hJ p0
  have h_10 := nx_be (b := F) (e := e1) (a := p0) (by first | (clear ha2 hq0 hq1 hq2 hq3 hq5 hq6 h_1 h_2 h_3 h_4 h_5 h_6 h_7 h_8 h_9; omega) | omega)
  have h_11 : -2147483648 ≤ (F (nx F e1 p0)) ∧ (F (nx F e1 p0)) ≤ 2147483647 := by rw [← hF (nx F e1 p0)]; exact ir_2 hJ (nx F e1 p0)
  have h_12 := nx_n (b := F) (e := e1) (a := p0)
  refine v_cv rfl rfl rfl rfl (by decide) ⟨⟨rfl, rfl⟩, by decide, rfl⟩ (Nat.le_of_ble_eq_true rfl) (Nat.le_of_ble_eq_true rfl) (f_6 (e1 := e1) (a9 := p0) (B := F) (r8 := (nx F e1 p0)) hJ ((hg_e1)) ((hg_p0)) (fun j => hF j) rfl (fun c_13 hI_14 hF_15 h_16 hz_17 => by exfalso; first | (clear ha2 hq0 hq1 hq2 hq3 hq4 hq5 h_1 h_2 h_3 h_4 h_5 h_6 h_7 h_8 h_9 h_10 h_11 h_12; omega) | omega) (fun c_18 hI_19 hF_20 h_21 hz_22 => ?_))
  refine bk_inl ?_
  refine v_if_eq_t (t := 19) rfl (by decide) (by decide) ?_
  refine q_aload_n rfl rfl ?_
  have kn_23 : Hid (c_18 1 1 = e1) := (hF_20 1 1 (fun h => absurd h.2 (ni rfl))).trans (hg_e1)
  refine v_cv rfl rfl rfl rfl (by decide) ⟨⟨rfl, rfl⟩, by decide, rfl⟩ (Nat.le_of_ble_eq_true rfl) (Nat.le_of_ble_eq_true rfl) (f_3 (e1 := e1) (a9 := (nx F e1 p0)) (B := F) (r8 := (nx F e1 p0)) hI_19 ((hid kn_23)) ((hz_22)) (fun j => (hF_20 2 j (fun h => absurd h.1 (nn rfl))).trans (hF j)) (nx_z (by omega)) (fun c_24 hI_25 hF_26 hz_27 => ?_))
  refine bk_inl ?_
  refine q_istore_n rfl (by decide) ?_
  refine q_aload_n rfl rfl ?_
  refine q_ldc_s rfl rfl rfl (by decide) ?_
  have kn_28 : Hid (c_24 1 1 = e1) := (hF_26 1 1 (fun h => absurd h.2 (ni rfl))).trans (hid kn_23)
  refine v_cv rfl rfl rfl rfl (by decide) ⟨⟨rfl, rfl⟩, by decide, rfl⟩ (Nat.le_of_ble_eq_true rfl) (Nat.le_of_ble_eq_true rfl) (f_4_0 (e1 := e1) (a9 := (nx F e1 p0)) (B := F) (r8 := (nx F e1 p0)) hI_25 ((hid kn_28)) ((hz_27)) (fun j => ((hF_26 2 j (fun h => absurd h.1 (nn rfl))).trans (hF_20 2 j (fun h => absurd h.1 (nn rfl)))).trans (hF j)) (nx_z (by omega)) (fun c_29 hI_30 hF_31 h_32 hz_33 => ?_) (fun c_34 hI_35 hF_36 h_37 hz_38 => by exfalso; omega))
  refine bk_inl ?_
  refine q_iconst rfl ?_
  refine v_ic_eq_f (t := 38) rfl (by decide) (by decide) ?_
  refine q_iconst rfl ?_
  refine q_goto (t := 39) rfl (by decide) ?_
  refine q_istore rfl (by decide) ?_
  refine q_iload rfl rfl ?_
  refine v_if_eq_f (t := 50) rfl (by decide) (by decide) ?_
  refine q_iconst rfl ?_
  refine q_goto (t := 56) rfl (by decide) ?_
  refine q_istore rfl (by decide) ?_
  refine q_iload rfl rfl ?_
  refine q_iconst rfl ?_
  refine v_ic_eq_t (t := 82) rfl (by decide) (by decide) ?_
  refine q_iload_n rfl rfl ?_
  refine v_bip rfl (by decide) ?_
  by_cases h_39 : a2 < 6
  · refine v_ic_lt_t (t := 94) rfl (by decide) ⟨(Int.le_trans (by decide) ha2.1), h_39, by decide⟩ ?_
    refine q_aload_n rfl rfl ?_
    refine v_cv rfl rfl rfl rfl (by decide) ⟨⟨rfl, rfl⟩, by decide, rfl⟩ (Nat.le_of_ble_eq_true rfl) (Nat.le_of_ble_eq_true rfl) ?_
    refine q_aload_n rfl rfl ?_
    have kn_40 : Hid (c_18 1 4 = f0) := (hF_20 1 4 (fun h => absurd h.2 (ni rfl))).trans (hg_f0)
    have kn_41 : Hid (c_24 1 4 = f0) := (hF_26 1 4 (fun h => absurd h.2 (ni rfl))).trans (hid kn_40)
    have kn_42 : Hid (c_29 1 4 = f0) := (hF_31 1 4 (fun h => absurd h.2 (ni rfl))).trans (hid kn_41)
    refine v_gi (z := 4) (v := f0) rfl rfl rfl (by decide) rfl rfl (hid kn_42) ?_
    refine v_if_ne_f (t := 11) rfl (by decide) (by first | (clear ha2 hq1 hq2 hq3 hq4 hq5 hq6 h_1 h_2 h_3 h_4 h_5 h_6 h_7 h_8 h_9 h_10 h_11 h_32 h_39 h_12 h_21; omega) | omega) ?_
    refine q_iconst rfl ?_
    refine q_goto (t := 12) rfl (by decide) ?_
    refine v_zret rfl rfl (by decide) ?_
    refine bk_inl ?_
    refine v_if_ne_t (t := 102) rfl (by decide) (by decide) ?_
    refine q_iload rfl rfl ?_
    refine v_if_eq_f (t := 124) rfl (by decide) (by decide) ?_
    refine q_aload_n rfl rfl ?_
    refine q_aload_n rfl rfl ?_
    refine q_iload_n rfl rfl ?_
    refine q_iconst rfl ?_
    refine v_iadd (v := a2 + 1) rfl rfl ?_
    refine v_cv rfl rfl rfl (ck_p7 hA) (a68 hA rfl) ⟨⟨rfl, rfl⟩, by decide, rfl⟩ (Nat.le_of_ble_eq_true rfl) (Nat.le_of_ble_eq_true rfl) (fn_of (r_13 (a2 := a2 + 1) hI_30 hA (show 0 ≤ a2 + 1 ∧ a2 + 1 ≤ 6 from ⟨by first | exact rgp_l ha2.1 (by decide) | omega, by first | (clear ha2 hq0 hq1 hq2 hq3 hq4 hq5 hq6 h_1 h_2 h_3 h_4 h_5 h_6 h_7 h_8 h_9 h_10 h_11 h_32 h_12 h_21; omega) | omega⟩) (fun c_43 hI_44 hF_45 => ?_)))
    intro hG_46
    refine bk_inl ?_
    refine q_aload_n rfl rfl ?_
    refine q_ldc_s rfl rfl rfl (by decide) ?_
    have h_47 := ir_1_4 hI_44
    by_cases h_48 : c_43 1 4 = 0
    · skip
      refine v_cv rfl rfl rfl rfl (by decide) ⟨⟨rfl, rfl⟩, by decide, rfl⟩ (Nat.le_of_ble_eq_true rfl) (Nat.le_of_ble_eq_true rfl) (fn_of (s_11 hI_44 (q := 2) (nt := 1) (by decide) (by decide) (by decide) (fun c_49 hI_50 hF_51 => ?_)))
      intro hG_52
      refine bk_inl ?_
      refine q_goto (t := 171) rfl (by decide) ?_
      refine q_vret rfl rfl ?_
      intro hE_53
      have hW : Wd P Q P P c_49 = Wd P Q P P m9 := (Prod.mk.inj (Prod.mk.inj hE_53).2).1
      have h_54 := ir_1_4 hI_50
      have h_55 := ir_1_4 hJ9
      have h_56 : m9 1 4 = c_49 1 4 := wd_fv (z := 4) 4 rfl hW rfl rfl rfl rfl (by decide) rfl ⟨(Int.le_trans (by decide) h_54.1), (Int.le_trans h_54.2 (by decide))⟩ ⟨(Int.le_trans (by decide) h_55.1), (Int.le_trans h_55.2 (by decide))⟩
      have h_57 := ir_1_2 hI_50
      have h_58 := ir_1_2 hJ9
      have h_59 : m9 1 2 = c_49 1 2 := wd_fv (z := 2) 2 rfl hW rfl rfl rfl rfl (by decide) rfl ⟨(Int.le_trans (by decide) h_57.1), (Int.le_trans h_57.2 (by decide))⟩ ⟨(Int.le_trans (by decide) h_58.1), (Int.le_trans h_58.2 (by decide))⟩
      have h_60 := ir_1_5 hI_50
      have h_61 := ir_1_5 hJ9
      have h_62 : m9 1 5 = c_49 1 5 := wd_fv (z := 5) 5 rfl hW rfl rfl rfl rfl (by decide) rfl ⟨(Int.le_trans (by decide) h_60.1), (Int.le_trans h_60.2 (by decide))⟩ ⟨(Int.le_trans (by decide) h_61.1), (Int.le_trans h_61.2 (by decide))⟩
      have h_63 := ir_p7_5 hI_44 hA
      have kn_64 : Hid (c_49 (A + 7) 5 = c_43 (A + 7) 5) := hF_51 (A + 7) 5 (fun q => q.elim (fun h => absurd h.1 (np hA rfl rfl)) (fun q => q.elim (fun h => absurd h.1 (np hA rfl rfl)) (fun h => absurd h.1 (np hA rfl rfl))))
      have h_65 := ir_p7_5 hJ9 hA
      have h_66 : m9 (A + 7) 5 = c_43 (A + 7) 5 := wd_fv (z := 5) 5 rfl hW (ck_p7 hA) (ck_p7 hA) rfl rfl (by omega) (hid kn_64) ⟨by first | (clear ha2 hq0 hq1 hq2 hq3 hq4 hq5 hq6 h_1 h_2 h_3 h_4 h_5 h_6 h_7 h_8 h_9 h_10 h_11 h_32 h_39 h_47 h_48 h_54 h_55 h_56 h_57 h_58 h_59 h_60 h_61 h_62 h_65 h_12 h_21; omega) | omega, by first | (clear ha2 hq0 hq1 hq2 hq3 hq4 hq5 hq6 h_1 h_2 h_3 h_4 h_5 h_6 h_7 h_8 h_9 h_10 h_11 h_32 h_39 h_47 h_48 h_54 h_55 h_56 h_57 h_58 h_59 h_60 h_61 h_62 h_65 h_12 h_21; omega) | omega⟩ ⟨(Int.le_trans (by decide) h_65.1), (Int.le_trans h_65.2 (by decide))⟩
      refine q_aload_n rfl rfl ?_
      refine v_cv rfl rfl rfl rfl (by decide) ⟨⟨rfl, rfl⟩, by decide, rfl⟩ (Nat.le_of_ble_eq_true rfl) (Nat.le_of_ble_eq_true rfl) ?_
      refine q_aload_n rfl rfl ?_
      have h_67 := ir_41_5 hI
      have h_68 := ir_41_4 hI
      have h_69 := ir_41_6 hI
      have h_70 := rt_ok hRt (by omega)
      have hro_hRt := rt_ok hRt (by omega)
      refine v_gi (z := 5) (v := (-1)) rfl rfl rfl (by decide) rfl rfl hro_hRt.2.1 ?_
      refine q_iconst rfl ?_
      refine v_ic_ne_f (t := 12) rfl (by decide) (by decide) ?_
      refine q_iconst rfl ?_
      refine q_goto (t := 13) rfl (by decide) ?_
      refine v_zret rfl rfl (by decide) ?_
      refine bk_inl ?_
      refine v_if_ne_t (t := 8) rfl (by decide) (by decide) ?_
      refine q_aload_n rfl rfl ?_
      have h_71 : -2147483648 ≤ (H (nx F e1 p0)) ∧ (H (nx F e1 p0)) ≤ 2147483647 := by rw [← hH (nx F e1 p0)]; exact ir_43 hI (nx F e1 p0)
      have h_72 := hU (nx F e1 p0) (by omega) (by omega)
      have h_73 := hb_or (b := H) (e := e1) (r := (nx F e1 p0))
      have h_74 := hb_bd (b := H) (e := e1) (r := (nx F e1 p0)) (lo := -2147483648) (hi := 2147483647) h_71 (by decide)
      refine v_cv rfl rfl rfl rfl (by decide) ⟨⟨rfl, rfl⟩, by decide, rfl⟩ (Nat.le_of_ble_eq_true rfl) (Nat.le_of_ble_eq_true rfl) (f_154 (e1 := e1) (a9 := p0) (B := H) (r8 := (nx F e1 p0)) (r := (hb H e1 (nx F e1 p0))) hI ((hr_e1)) (((hro_hRt.2.2.1).trans ((hg_p0)))) (fun j => hH j) ((nx_tr hU (by first | (clear ha2 hq0 hq1 hq2 hq3 hq4 hq5 hq6 h_1 h_2 h_3 h_4 h_6 h_7 h_8 h_9 h_10 h_11 h_32 h_39 h_47 h_48 h_54 h_55 h_56 h_57 h_58 h_59 h_60 h_61 h_62 h_63 h_65 h_66 h_67 h_68 h_69 h_70 h_12 h_21; omega) | omega) (by first | (clear ha2 hq0 hq1 hq2 hq3 hq4 hq6 h_1 h_2 h_3 h_4 h_5 h_6 h_7 h_8 h_9 h_10 h_11 h_32 h_39 h_47 h_48 h_54 h_55 h_56 h_57 h_58 h_59 h_60 h_61 h_62 h_63 h_65 h_66 h_67 h_68 h_69 h_70 h_12 h_21; omega) | omega)).trans (rfl)) rfl (fun c_75 hI_76 hF_77 h_78 => ?_))
      refine bk_inl ?_
      refine v_bip rfl (by decide) ?_
      refine v_ic_ne_f (t := 45) rfl (by decide) (by first | (clear ha2 hq0 hq1 hq2 hq3 h_3 h_4 h_5 h_6 h_7 h_8 h_9 h_11 h_39 h_47 h_48 h_54 h_55 h_56 h_57 h_58 h_59 h_60 h_61 h_62 h_63 h_65 h_66 h_67 h_68 h_69 h_70; omega) | omega) ?_
      refine q_aload_n rfl rfl ?_
      refine q_iconst rfl ?_
      refine v_cv rfl rfl rfl rfl (by decide) ⟨⟨rfl, rfl⟩, by decide, rfl⟩ (Nat.le_of_ble_eq_true rfl) (Nat.le_of_ble_eq_true rfl) ?_
      refine q_aload_n rfl rfl ?_
      refine v_cv rfl rfl rfl rfl (by decide) ⟨⟨rfl, rfl⟩, by decide, rfl⟩ (Nat.le_of_ble_eq_true rfl) (Nat.le_of_ble_eq_true rfl) ?_
      refine q_aload_n rfl rfl ?_
      have kn_79 : Hid (c_75 41 5 = (-1)) := (hF_77 41 5 (fun h => absurd h.2 (ni rfl))).trans hro_hRt.2.1
      refine v_gi (z := 5) (v := (-1)) rfl rfl rfl (by decide) rfl rfl (hid kn_79) ?_
      refine q_iconst rfl ?_
      refine v_ic_ne_f (t := 12) rfl (by decide) (by decide) ?_
      refine q_iconst rfl ?_
      refine q_goto (t := 13) rfl (by decide) ?_
      refine v_zret rfl rfl (by decide) ?_
      refine bk_inl ?_
      refine v_if_eq_f (t := 25) rfl (by decide) (by decide) ?_
      refine q_aload_n rfl rfl ?_
      have kn_80 : Hid (c_75 41 7 = o0) := (hF_77 41 7 (fun h => absurd h.2 (ni rfl))).trans (hr_o0)
      refine v_gi (z := 7) (v := o0) rfl rfl rfl (by decide) rfl rfl (hid kn_80) ?_
      refine v_bip rfl (by decide) ?_
      refine v_ic_ne_t (t := 25) rfl (by decide) ⟨by first | (clear ha2 hq0 hq1 hq3 hq4 hq5 hq6 h_1 h_2 h_3 h_4 h_5 h_6 h_7 h_8 h_9 h_10 h_11 h_32 h_47 h_48 h_54 h_55 h_56 h_57 h_58 h_59 h_60 h_61 h_62 h_63 h_65 h_66 h_67 h_68 h_69 h_70 h_71 h_72 h_74 h_12 h_21 h_73; omega) | omega, ⟨(Int.le_trans (by decide) (rg_eq hr_o0 h_8).1), (Int.le_trans (rg_eq hr_o0 h_8).2 (by decide))⟩, by decide, by decide⟩ ?_
      refine q_aload_n rfl rfl ?_
      refine v_cv rfl rfl rfl rfl (by decide) ⟨⟨rfl, rfl⟩, by decide, rfl⟩ (Nat.le_of_ble_eq_true rfl) (Nat.le_of_ble_eq_true rfl) ?_
      refine q_aload_n rfl rfl ?_
      refine v_gi (z := 5) (v := (-1)) rfl rfl rfl (by decide) rfl rfl (hid kn_79) ?_
      refine q_iconst rfl ?_
      refine v_ic_ne_f (t := 12) rfl (by decide) (by decide) ?_
      refine q_iconst rfl ?_
      refine q_goto (t := 13) rfl (by decide) ?_
      refine v_zret rfl rfl (by decide) ?_
      refine bk_inl ?_
      refine v_if_eq_f (t := 42) rfl (by decide) (by decide) ?_
      refine q_aload_n rfl rfl ?_
      refine q_dup rfl rfl ?_
      refine v_gi (z := 4) (v := (nx F e1 p0)) rfl rfl rfl (by decide) rfl rfl (h_78) ?_
      refine q_iload_n rfl rfl ?_
      refine v_iadd (v := (nx F e1 p0) + 1) rfl rfl ?_
      refine v_pi (z := 4) rfl rfl rfl (by decide) rfl rfl rfl (by decide) ?_
      refine q_aload_n rfl rfl ?_
      refine q_dup rfl rfl ?_
      refine v_gi (z := 7) (v := o0) rfl rfl rfl (by decide) rfl rfl ((up_n (by decide)).trans (hid kn_80)) ?_
      refine q_iconst rfl ?_
      refine v_iadd (v := o0 + 1) rfl rfl ?_
      refine v_pi (z := 7) rfl rfl rfl (by decide) rfl rfl rfl (by decide) ?_
      refine q_vret rfl rfl ?_
      refine bk_inl ?_
      refine q_aload_n rfl rfl ?_
      have hI_81 := iw_41_4 (v := (nx F e1 p0) + 1) hI_76 ⟨by first | exact rgp_l (rg_be h_10 ((rg_eq hg_p0 h_5).1) ((rg_eq hg_e1 h_1).2)).1 (by decide) | omega, by first | exact rgp_h (rg_be h_10 ((rg_eq hg_p0 h_5).1) ((rg_eq hg_e1 h_1).2)).2 (by decide) | omega⟩
      have hI_82 := iw_41_7 (v := o0 + 1) hI_81 ⟨by first | exact rgp_l (rg_eq hr_o0 h_8).1 (by decide) | omega, by first | (clear ha2 hq0 hq1 hq3 hq4 hq5 hq6 h_1 h_2 h_3 h_4 h_5 h_6 h_7 h_8 h_9 h_10 h_11 h_32 h_47 h_48 h_54 h_55 h_56 h_57 h_58 h_59 h_60 h_61 h_62 h_63 h_65 h_66 h_67 h_68 h_69 h_70 h_71 h_72 h_74 h_12 h_21 h_73; omega) | omega⟩
      have kn_83 : Hid (c_29 1 1 = e1) := (hF_31 1 1 (fun h => absurd h.2 (ni rfl))).trans (hid kn_28)
      have kn_84 : Hid (c_75 41 3 = e1) := (hF_77 41 3 (fun h => absurd h.2 (ni rfl))).trans (hr_e1)
      have kn_85 : Hid (c_18 1 5 = g0) := (hF_20 1 5 (fun h => absurd h.2 (ni rfl))).trans (hg_g0)
      have kn_86 : Hid (c_24 1 5 = g0) := (hF_26 1 5 (fun h => absurd h.2 (ni rfl))).trans (hid kn_85)
      have kn_87 : Hid (c_29 1 5 = g0) := (hF_31 1 5 (fun h => absurd h.2 (ni rfl))).trans (hid kn_86)
      have kn_88 : Hid (c_18 (A + 7) 5 = n0) := (hF_20 (A + 7) 5 (fun h => absurd h.1 (np hA rfl rfl))).trans (hg_n0)
      have kn_89 : Hid (c_24 (A + 7) 5 = n0) := (hF_26 (A + 7) 5 (fun h => absurd h.1 (np hA rfl rfl))).trans (hid kn_88)
      have kn_90 : Hid (c_29 (A + 7) 5 = n0) := (hF_31 (A + 7) 5 (fun h => absurd h.1 (np hA rfl rfl))).trans (hid kn_89)
      have kn_91 : Hid (c_75 41 29 = n0) := (hF_77 41 29 (fun h => absurd h.2 (ni rfl))).trans (hr_n0)
      have h_92 : c_29 1 4 = f0 := (hid kn_42)
      have h_93 : c_29 1 2 = (nx F e1 p0) + 1 := (hz_33)
      have h_94 : c_29 1 5 = g0 := (hid kn_87)
      have h_95 : (up (up c_75 41 4 ((nx F e1 p0) + 1)) 41 7 (o0 + 1)) 41 5 = (-1) := ((up_n (by decide)).trans ((up_n (by decide)).trans (hid kn_79)))
      have h_96 : (up (up c_75 41 4 ((nx F e1 p0) + 1)) 41 7 (o0 + 1)) 41 4 = (nx F e1 p0) + 1 := ((up_n (by decide)).trans (up_e rfl))
      have kn_97 : Hid (c_75 41 6 = c 41 6) := hF_77 41 6 (fun h => absurd h.2 (ni rfl))
      have h_98 : (up (up c_75 41 4 ((nx F e1 p0) + 1)) 41 7 (o0 + 1)) 41 6 = c 41 6 := ((up_n (by decide)).trans ((up_n (by decide)).trans (hid kn_97)))
      have hA_99 : Ce n0 (c_29 (A + 9)) ((up (up c_75 41 4 ((nx F e1 p0) + 1)) 41 7 (o0 + 1)) 50) ((up (up c_75 41 4 ((nx F e1 p0) + 1)) 41 7 (o0 + 1)) 51) := ce_fr hr0 (fun j => (hF_31 (A + 9) j (fun h => absurd h.1 (np hA rfl rfl))).trans ((hF_26 (A + 9) j (fun h => absurd h.1 (np hA rfl rfl))).trans (hF_20 (A + 9) j (fun h => absurd h.1 (np hA rfl rfl))))) (fun j => (up_c (nn rfl)).trans ((up_c (nn rfl)).trans (hF_77 50 j (fun h => absurd h.1 (nn rfl))))) (fun j => (up_c (nn rfl)).trans ((up_c (nn rfl)).trans (hF_77 51 j (fun h => absurd h.1 (nn rfl)))))
      refine v_cv rfl rfl rfl rfl (by decide) ⟨⟨rfl, rfl⟩, by decide, rfl⟩ (Nat.le_of_ble_eq_true rfl) (Nat.le_of_ble_eq_true rfl) (H13 (m := c_29) (e1 := e1) (f0 := f0) (g0 := g0) (p0 := (nx F e1 p0) + 1) (n0 := n0) (o0 := o0 + 1) (by omega) (by omega) hI_82 hI_30 hI_44 (show 0 ≤ a2 + 1 ∧ a2 + 1 ≤ 6 from ⟨by first | exact rgp_l ha2.1 (by decide) | omega, by first | (clear ha2 hq0 hq1 hq2 hq3 hq4 hq5 hq6 h_1 h_2 h_3 h_4 h_5 h_6 h_7 h_8 h_9 h_10 h_11 h_32 h_47 h_48 h_54 h_55 h_56 h_57 h_58 h_59 h_60 h_61 h_62 h_63 h_65 h_66 h_67 h_68 h_69 h_70 h_71 h_72 h_74 h_12 h_21 h_73; omega) | omega⟩) (by first | (clear ha2 hq1 hq2 hq3 hq4 hq5 hq6 h_1 h_2 h_3 h_4 h_5 h_6 h_7 h_8 h_9 h_10 h_11 h_32 h_39 h_47 h_48 h_54 h_55 h_56 h_57 h_58 h_59 h_60 h_61 h_62 h_63 h_65 h_66 h_67 h_68 h_69 h_70 h_71 h_72 h_74 h_12 h_21 h_73; omega) | omega) (by first | (clear ha2 hq0 hq2 hq3 hq4 hq5 hq6 h_1 h_2 h_3 h_4 h_5 h_6 h_7 h_8 h_9 h_10 h_11 h_32 h_39 h_47 h_48 h_54 h_55 h_56 h_57 h_58 h_59 h_60 h_61 h_62 h_63 h_65 h_66 h_67 h_68 h_69 h_70 h_71 h_72 h_74 h_12 h_21 h_73; omega) | omega) (by first | (clear ha2 hq0 hq1 hq3 hq4 hq5 hq6 h_1 h_2 h_3 h_4 h_5 h_6 h_7 h_8 h_9 h_10 h_11 h_32 h_39 h_47 h_48 h_54 h_55 h_56 h_57 h_58 h_59 h_60 h_61 h_62 h_63 h_65 h_66 h_67 h_68 h_69 h_70 h_71 h_72 h_74 h_12 h_21 h_73; omega) | omega) (by first | (clear ha2 hq0 hq1 hq2 hq4 hq5 hq6 h_1 h_2 h_3 h_4 h_5 h_6 h_7 h_8 h_9 h_11 h_32 h_39 h_47 h_48 h_54 h_55 h_56 h_57 h_58 h_59 h_60 h_61 h_62 h_63 h_65 h_66 h_67 h_68 h_69 h_70 h_71 h_72 h_74 h_12 h_21 h_73; omega) | omega) (by first | (clear ha2 hq0 hq1 hq2 hq3 hq4 hq5 h_1 h_2 h_3 h_4 h_5 h_6 h_7 h_8 h_9 h_10 h_11 h_32 h_39 h_47 h_48 h_54 h_55 h_56 h_57 h_58 h_59 h_60 h_61 h_62 h_63 h_65 h_66 h_67 h_68 h_69 h_70 h_71 h_72 h_74 h_12 h_21 h_73; omega) | omega) (by first | (clear ha2 hq0 hq1 hq2 hq3 hq4 hq6 h_1 h_2 h_3 h_4 h_5 h_6 h_7 h_8 h_9 h_10 h_11 h_32 h_39 h_47 h_48 h_54 h_55 h_56 h_57 h_58 h_59 h_60 h_61 h_62 h_63 h_65 h_66 h_67 h_68 h_69 h_70 h_71 h_72 h_74 h_12 h_21 h_73; omega) | omega) ((hid kn_83)) (((up_n (by decide)).trans ((up_n (by decide)).trans (hid kn_84)))) ((hid kn_42)) ((hid kn_87)) ((hz_33)) ((hid kn_90)) (((up_n (by decide)).trans ((up_n (by decide)).trans (hid kn_91)))) ((up_e rfl)) (fun j => ((hF_31 2 j (fun h => absurd h.1 (nn rfl))).trans ((hF_26 2 j (fun h => absurd h.1 (nn rfl))).trans (hF_20 2 j (fun h => absurd h.1 (nn rfl))))).trans (hF j)) (fun j => ((up_c (nn rfl)).trans ((up_c (nn rfl)).trans (hF_77 43 j (fun h => absurd h.1 (nn rfl))))).trans (hH j)) hU (rt_i1 ⟨by first | (clear ha2 hq1 hq2 hq3 hq4 hq5 hq6 h_1 h_2 h_3 h_4 h_5 h_6 h_7 h_8 h_9 h_10 h_11 h_32 h_39 h_47 h_48 h_54 h_55 h_56 h_57 h_58 h_59 h_60 h_61 h_62 h_63 h_65 h_66 h_67 h_68 h_69 h_70 h_71 h_72 h_74 h_12 h_21 h_73; omega) | omega, by first | (clear ha2 hq0 hq1 hq2 hq3 hq4 hq5 hq6 h_1 h_2 h_3 h_4 h_5 h_6 h_7 h_8 h_9 h_10 h_11 h_32 h_39 h_47 h_48 h_54 h_55 h_56 h_57 h_58 h_59 h_60 h_61 h_62 h_63 h_65 h_66 h_67 h_68 h_69 h_70 h_71 h_72 h_74 h_12 h_21 h_73; omega) | omega, by first | (clear ha2 hq0 hq1 hq2 hq3 hq4 hq5 hq6 h_1 h_2 h_3 h_4 h_5 h_6 h_7 h_8 h_9 h_10 h_11 h_32 h_39 h_47 h_48 h_54 h_55 h_56 h_57 h_58 h_59 h_60 h_61 h_62 h_63 h_65 h_66 h_67 h_68 h_69 h_70 h_71 h_72 h_74 h_12 h_21 h_73; omega) | omega, by first | (clear ha2 hq0 hq2 hq3 hq4 hq5 hq6 h_1 h_2 h_3 h_4 h_5 h_6 h_7 h_8 h_9 h_10 h_11 h_32 h_39 h_47 h_48 h_54 h_55 h_56 h_57 h_58 h_59 h_60 h_61 h_62 h_63 h_65 h_66 h_67 h_68 h_69 h_70 h_71 h_72 h_74 h_12 h_21 h_73; omega) | omega⟩) (ce_le hA_99 (by omega)) hG_46 (fun c_100 hI_101 hF_102 hR_104 h_105 h_106 hA_107 => ?_))
      refine bk_inl ?_
      have h_108 := ir_41_29 hI_101
      have h_109 := ir_1_2 hI_44
      have h_110 := ir_41_7 hI_101
      refine q_aload_n rfl rfl ?_
      refine v_bip rfl (by decide) ?_
      have h_111 := ir_41_5 hI_101
      have h_112 := ir_1_5 hI_44
      have h_113 := ir_41_4 hI_101
      have h_114 := ir_41_6 hI_101
      have h_115 := rt_ok hR_104 (by omega)
      have hro_hR_104 := rt_ok hR_104 (by omega)
      have kn_116 : Hid (c_43 1 1 = e1) := (hF_45 1 1 (fun q => q.elim (fun h => absurd h.2 (ni rfl)) (fun q => q.elim (fun h => absurd h.2 (ni rfl)) (fun q => q.elim (fun h => absurd h.2 (ni rfl)) (fun q => q.elim (fun h => absurd h.1 (pn hA rfl rfl)) (fun h => absurd h (pn hA rfl rfl))))))).trans (hid kn_83)
      have kn_117 : Hid (c_100 41 3 = e1) := (hF_102 41 3 (fun q => q.elim (fun h => absurd h.2 (ni rfl)) (fun q => q.elim (fun h => absurd h.2 (ni rfl)) (fun q => q.elim (fun h => absurd h.2 (ni rfl)) (fun q => q.elim (fun h => absurd h.2 (ni rfl)) (fun q => q.elim (fun h => absurd h.2 (ni rfl)) (fun q => q.elim (fun h => absurd h (nn rfl)) (fun h => absurd h (nn rfl))))))))).trans ((up_n (by decide)).trans ((up_n (by decide)).trans (hid kn_84)))
      refine v_cv rfl rfl rfl rfl (by decide) ⟨⟨rfl, rfl⟩, by decide, rfl⟩ (Nat.le_of_ble_eq_true rfl) (Nat.le_of_ble_eq_true rfl) (L_11_2 (m := c_43) (e1 := e1) (a9 := c_43 1 2) (f0 := c_43 1 4) (F := F) (H := H) hI_101 hI_44 hI_50 ((hid kn_116)) ((hid kn_117)) (rfl) (rfl) (fun j => ((hF_45 2 j (fun q => q.elim (fun h => absurd h.1 (nn rfl)) (fun q => q.elim (fun h => absurd h.1 (nn rfl)) (fun q => q.elim (fun h => absurd h.1 (nn rfl)) (fun q => q.elim (fun h => absurd h.1 (pn hA rfl rfl)) (fun h => absurd h (pn hA rfl rfl))))))).trans ((hF_31 2 j (fun h => absurd h.1 (nn rfl))).trans ((hF_26 2 j (fun h => absurd h.1 (nn rfl))).trans (hF_20 2 j (fun h => absurd h.1 (nn rfl)))))).trans (hF j)) (fun j => ((hF_102 43 j (fun q => q.elim (fun h => absurd h.1 (nn rfl)) (fun q => q.elim (fun h => absurd h.1 (nn rfl)) (fun q => q.elim (fun h => absurd h.1 (nn rfl)) (fun q => q.elim (fun h => absurd h.1 (nn rfl)) (fun q => q.elim (fun h => absurd h.1 (nn rfl)) (fun q => q.elim (fun h => absurd h (nn rfl)) (fun h => absurd h (nn rfl))))))))).trans ((up_c (nn rfl)).trans ((up_c (nn rfl)).trans (hF_77 43 j (fun h => absurd h.1 (nn rfl)))))).trans (hH j)) hU hR_104 hG_52 (fun c_118 hI_119 hF_120 hR_122 h_123 h_124 => ?_))
      refine bk_inl ?_
      refine q_aload_n rfl rfl ?_
      refine q_dup rfl rfl ?_
      have kn_125 : Hid (c_118 41 7 = c_100 41 7) := hF_120 41 7 (fun q => q.elim (fun h => absurd h.2 (ni rfl)) (fun q => q.elim (fun h => absurd h.2 (ni rfl)) (fun h => absurd h.2 (ni rfl))))
      refine v_gi (z := 7) (v := c_100 41 7) rfl rfl rfl (by decide) rfl rfl (hid kn_125) ?_
      refine q_iconst rfl ?_
      refine v_isub (v := c_100 41 7 - 1) rfl rfl ?_
      refine v_pi (z := 7) rfl rfl rfl (by decide) rfl rfl rfl (by decide) ?_
      refine q_goto (t := 154) rfl (by decide) ?_
      refine q_vret rfl rfl ?_
      have hI_126 := iw_41_7 (v := c_100 41 7 - 1) hI_119 ⟨by first | (clear hq0 hq1 hq2 hq3 hq4 hq5 hq6 h_1 h_2 h_3 h_4 h_5 h_6 h_7 h_8 h_9 h_10 h_11 h_32 h_39 h_47 h_48 h_54 h_55 h_56 h_57 h_58 h_59 h_60 h_61 h_62 h_63 h_65 h_66 h_67 h_68 h_69 h_70 h_71 h_72 h_74 h_108 h_109 h_110 h_111 h_112 h_113 h_114 h_115 h_12 h_21 h_73 h_105 h_123 h_124; omega) | omega, by first | exact rgm_h h_110.2 (by decide) | omega⟩
      have h_127 := ir_41_5 hI_119
      have h_128 := ir_41_4 hI_119
      have h_129 := ir_41_6 hI_119
      have h_130 := rt_or hR_122
      have h_131 : (up c_118 41 7 (c_100 41 7 - 1)) 41 5 = c_118 41 5 := (up_n (by decide))
      have h_132 : (up c_118 41 7 (c_100 41 7 - 1)) 41 4 = c_118 41 4 := (up_n (by decide))
      have h_133 : (up c_118 41 7 (c_100 41 7 - 1)) 41 6 = c_118 41 6 := (up_n (by decide))
      have kn_134 : Hid (c_118 41 29 = c_100 41 29) := hF_120 41 29 (fun q => q.elim (fun h => absurd h.2 (ni rfl)) (fun q => q.elim (fun h => absurd h.2 (ni rfl)) (fun h => absurd h.2 (ni rfl))))
      have h_135 : (up c_118 41 7 (c_100 41 7 - 1)) 41 29 = c_100 41 29 := ((up_n (by decide)).trans (hid kn_134))
      have h_136 : (up c_118 41 7 (c_100 41 7 - 1)) 41 7 = c_100 41 7 - 1 := (up_e rfl)
      have h_137 : (up c_118 41 7 (c_100 41 7 - 1)) 41 29 = c_100 41 29 := ((up_n (by decide)).trans (hid kn_134))
      have hA_138 : Ce (c_100 41 29) (c_49 (A + 9)) ((up c_118 41 7 (c_100 41 7 - 1)) 50) ((up c_118 41 7 (c_100 41 7 - 1)) 51) := ce_fr (hA_107 (by omega)) (fun j => hF_51 (A + 9) j (fun q => q.elim (fun h => absurd h.1 (np hA rfl rfl)) (fun q => q.elim (fun h => absurd h.1 (np hA rfl rfl)) (fun h => absurd h.1 (np hA rfl rfl))))) (fun j => (up_c (nn rfl)).trans (hF_120 50 j (fun q => q.elim (fun h => absurd h.1 (nn rfl)) (fun q => q.elim (fun h => absurd h.1 (nn rfl)) (fun h => absurd h.1 (nn rfl)))))) (fun j => (up_c (nn rfl)).trans (hF_120 51 j (fun q => q.elim (fun h => absurd h.1 (nn rfl)) (fun q => q.elim (fun h => absurd h.1 (nn rfl)) (fun h => absurd h.1 (nn rfl))))))
      have hA_139 : Ce (c_100 41 29) (m9 (A + 9)) ((up c_118 41 7 (c_100 41 7 - 1)) 50) ((up c_118 41 7 (c_100 41 7 - 1)) 51) := ce_l hA_138 (fun j h1 h2 => wd_av hW (ck_p9 hA) (ck_p9 hA) (by decide) (a68 hA rfl) ⟨h1, by omega⟩ rfl (ir_p9 hI_50 hA j) (ir_p9 hJ9 hA j))
      exact K (up c_118 41 7 (c_100 41 7 - 1))  hI_126 (fun a j hm => (up_b (Decidable.or_iff_not_imp_left.mpr (fun h1 h2 => hm (Or.inr (Or.inr (Or.inr (Or.inl ⟨Decidable.not_not.mp h1, h2⟩))))))).trans ((hF_120 a j (fun q => q.elim (fun h => hm (Or.inl h)) (fun q => q.elim (fun h => hm (Or.inr (Or.inl h))) (fun h => hm (Or.inr (Or.inr (Or.inl h))))))).trans ((hF_102 a j (fun q => q.elim (fun h => hm (Or.inl h)) (fun q => q.elim (fun h => hm (Or.inr (Or.inl h))) (fun q => q.elim (fun h => hm (Or.inr (Or.inr (Or.inl h)))) (fun q => q.elim (fun h => hm (Or.inr (Or.inr (Or.inr (Or.inl h))))) (fun q => q.elim (fun h => hm (Or.inr (Or.inr (Or.inr (Or.inr (Or.inl h)))))) (fun q => q.elim (fun h => hm (Or.inr (Or.inr (Or.inr (Or.inr (Or.inr (Or.inl h))))))) (fun h => hm (Or.inr (Or.inr (Or.inr (Or.inr (Or.inr (Or.inr h)))))))))))))).trans ((up_b (Decidable.or_iff_not_imp_left.mpr (fun h1 h2 => hm (Or.inr (Or.inr (Or.inr (Or.inl ⟨Decidable.not_not.mp h1, h2⟩))))))).trans ((up_b (Decidable.or_iff_not_imp_left.mpr (fun h1 h2 => hm (Or.inl ⟨Decidable.not_not.mp h1, h2⟩)))).trans (hF_77 a j (fun h => hm (Or.inl h)))))))) (by unfold Rt; omega) (by omega) (by first | (clear ha2 hq0 hq1 hq2 hq3 hq4 hq5 hq6 h_1 h_2 h_3 h_4 h_5 h_6 h_7 h_8 h_9 h_10 h_11 h_32 h_39 h_47 h_48 h_54 h_55 h_56 h_57 h_58 h_59 h_60 h_61 h_62 h_63 h_65 h_66 h_67 h_68 h_69 h_70 h_71 h_72 h_74 h_108 h_109 h_110 h_111 h_112 h_113 h_114 h_115 h_127 h_128 h_129 h_12 h_21 h_73 h_105 h_123 h_124 h_130; omega) | omega) (fun _ => ce_le hA_139 (by omega))
    · skip
      refine v_cv rfl rfl rfl rfl (by decide) ⟨⟨rfl, rfl⟩, by decide, rfl⟩ (Nat.le_of_ble_eq_true rfl) (Nat.le_of_ble_eq_true rfl) ?_
      refine q_aload_n rfl rfl ?_
      refine v_cv rfl rfl rfl rfl (by decide) ⟨⟨rfl, rfl⟩, by decide, rfl⟩ (Nat.le_of_ble_eq_true rfl) (Nat.le_of_ble_eq_true rfl) ?_
      refine q_aload_n rfl rfl ?_
      refine v_gi (z := 4) (v := c_43 1 4) rfl rfl rfl (by decide) rfl rfl rfl ?_
      refine v_if_ne_t (t := 11) rfl (by decide) ⟨by first | (clear ha2 hq0 hq1 hq2 hq3 hq4 hq5 hq6 h_1 h_2 h_3 h_4 h_5 h_6 h_7 h_8 h_9 h_10 h_11 h_32 h_39 h_47 h_12 h_21; omega) | omega, ⟨(Int.le_trans (by decide) h_47.1), (Int.le_trans h_47.2 (by decide))⟩, by decide, by decide⟩ ?_
      refine q_iconst rfl ?_
      refine v_zret rfl rfl (by decide) ?_
      refine bk_inl ?_
      refine v_if_eq_t (t := 25) rfl (by decide) (by decide) ?_
      refine q_vret rfl rfl ?_
      refine bk_inl ?_
      refine q_goto (t := 171) rfl (by decide) ?_
      refine q_vret rfl rfl ?_
      intro hE_140
      have hW : Wd P Q P P c_43 = Wd P Q P P m9 := (Prod.mk.inj (Prod.mk.inj hE_140).2).1
      have h_141 := ir_1_4 hJ9
      have h_142 : m9 1 4 = c_43 1 4 := wd_fv (z := 4) 4 rfl hW rfl rfl rfl rfl (by decide) rfl ⟨(Int.le_trans (by decide) h_47.1), (Int.le_trans h_47.2 (by decide))⟩ ⟨(Int.le_trans (by decide) h_141.1), (Int.le_trans h_141.2 (by decide))⟩
      have h_143 := ir_1_2 hI_44
      have h_144 := ir_1_2 hJ9
      have h_145 : m9 1 2 = c_43 1 2 := wd_fv (z := 2) 2 rfl hW rfl rfl rfl rfl (by decide) rfl ⟨(Int.le_trans (by decide) h_143.1), (Int.le_trans h_143.2 (by decide))⟩ ⟨(Int.le_trans (by decide) h_144.1), (Int.le_trans h_144.2 (by decide))⟩
      have h_146 := ir_1_5 hI_44
      have h_147 := ir_1_5 hJ9
      have h_148 : m9 1 5 = c_43 1 5 := wd_fv (z := 5) 5 rfl hW rfl rfl rfl rfl (by decide) rfl ⟨(Int.le_trans (by decide) h_146.1), (Int.le_trans h_146.2 (by decide))⟩ ⟨(Int.le_trans (by decide) h_147.1), (Int.le_trans h_147.2 (by decide))⟩
      have h_149 := ir_p7_5 hI_44 hA
      have h_150 := ir_p7_5 hJ9 hA
      have h_151 : m9 (A + 7) 5 = c_43 (A + 7) 5 := wd_fv (z := 5) 5 rfl hW (ck_p7 hA) (ck_p7 hA) rfl rfl (by omega) rfl ⟨(Int.le_trans (by decide) h_149.1), (Int.le_trans h_149.2 (by decide))⟩ ⟨(Int.le_trans (by decide) h_150.1), (Int.le_trans h_150.2 (by decide))⟩
      refine q_aload_n rfl rfl ?_
      refine v_cv rfl rfl rfl rfl (by decide) ⟨⟨rfl, rfl⟩, by decide, rfl⟩ (Nat.le_of_ble_eq_true rfl) (Nat.le_of_ble_eq_true rfl) ?_
      refine q_aload_n rfl rfl ?_
      have h_152 := ir_41_5 hI
      have h_153 := ir_41_4 hI
      have h_154 := ir_41_6 hI
      have h_155 := rt_ok hRt (by omega)
      have hro_hRt := rt_ok hRt (by omega)
      refine v_gi (z := 5) (v := (-1)) rfl rfl rfl (by decide) rfl rfl hro_hRt.2.1 ?_
      refine q_iconst rfl ?_
      refine v_ic_ne_f (t := 12) rfl (by decide) (by decide) ?_
      refine q_iconst rfl ?_
      refine q_goto (t := 13) rfl (by decide) ?_
      refine v_zret rfl rfl (by decide) ?_
      refine bk_inl ?_
      refine v_if_ne_t (t := 8) rfl (by decide) (by decide) ?_
      refine q_aload_n rfl rfl ?_
      have h_156 : -2147483648 ≤ (H (nx F e1 p0)) ∧ (H (nx F e1 p0)) ≤ 2147483647 := by rw [← hH (nx F e1 p0)]; exact ir_43 hI (nx F e1 p0)
      have h_157 := hU (nx F e1 p0) (by omega) (by omega)
      have h_158 := hb_or (b := H) (e := e1) (r := (nx F e1 p0))
      have h_159 := hb_bd (b := H) (e := e1) (r := (nx F e1 p0)) (lo := -2147483648) (hi := 2147483647) h_156 (by decide)
      refine v_cv rfl rfl rfl rfl (by decide) ⟨⟨rfl, rfl⟩, by decide, rfl⟩ (Nat.le_of_ble_eq_true rfl) (Nat.le_of_ble_eq_true rfl) (f_154 (e1 := e1) (a9 := p0) (B := H) (r8 := (nx F e1 p0)) (r := (hb H e1 (nx F e1 p0))) hI ((hr_e1)) (((hro_hRt.2.2.1).trans ((hg_p0)))) (fun j => hH j) ((nx_tr hU (by first | (clear ha2 hq0 hq1 hq2 hq3 hq4 hq5 hq6 h_1 h_2 h_3 h_4 h_6 h_7 h_8 h_9 h_10 h_11 h_32 h_39 h_47 h_141 h_142 h_143 h_144 h_145 h_146 h_147 h_148 h_149 h_150 h_151 h_152 h_153 h_154 h_155 h_12 h_21; omega) | omega) (by first | (clear ha2 hq0 hq1 hq2 hq3 hq4 hq6 h_1 h_2 h_3 h_4 h_5 h_6 h_7 h_8 h_9 h_10 h_11 h_32 h_39 h_47 h_141 h_142 h_143 h_144 h_145 h_146 h_147 h_148 h_149 h_150 h_151 h_152 h_153 h_154 h_155 h_12 h_21; omega) | omega)).trans (rfl)) rfl (fun c_160 hI_161 hF_162 h_163 => ?_))
      refine bk_inl ?_
      refine v_bip rfl (by decide) ?_
      refine v_ic_ne_f (t := 45) rfl (by decide) (by first | (clear ha2 hq0 hq1 hq2 hq3 h_3 h_4 h_5 h_6 h_7 h_8 h_9 h_11 h_39 h_47 h_141 h_142 h_143 h_144 h_145 h_146 h_147 h_148 h_149 h_150 h_151 h_152 h_153 h_154 h_155; omega) | omega) ?_
      refine q_aload_n rfl rfl ?_
      refine q_iconst rfl ?_
      refine v_cv rfl rfl rfl rfl (by decide) ⟨⟨rfl, rfl⟩, by decide, rfl⟩ (Nat.le_of_ble_eq_true rfl) (Nat.le_of_ble_eq_true rfl) ?_
      refine q_aload_n rfl rfl ?_
      refine v_cv rfl rfl rfl rfl (by decide) ⟨⟨rfl, rfl⟩, by decide, rfl⟩ (Nat.le_of_ble_eq_true rfl) (Nat.le_of_ble_eq_true rfl) ?_
      refine q_aload_n rfl rfl ?_
      have kn_164 : Hid (c_160 41 5 = (-1)) := (hF_162 41 5 (fun h => absurd h.2 (ni rfl))).trans hro_hRt.2.1
      refine v_gi (z := 5) (v := (-1)) rfl rfl rfl (by decide) rfl rfl (hid kn_164) ?_
      refine q_iconst rfl ?_
      refine v_ic_ne_f (t := 12) rfl (by decide) (by decide) ?_
      refine q_iconst rfl ?_
      refine q_goto (t := 13) rfl (by decide) ?_
      refine v_zret rfl rfl (by decide) ?_
      refine bk_inl ?_
      refine v_if_eq_f (t := 25) rfl (by decide) (by decide) ?_
      refine q_aload_n rfl rfl ?_
      have kn_165 : Hid (c_160 41 7 = o0) := (hF_162 41 7 (fun h => absurd h.2 (ni rfl))).trans (hr_o0)
      refine v_gi (z := 7) (v := o0) rfl rfl rfl (by decide) rfl rfl (hid kn_165) ?_
      refine v_bip rfl (by decide) ?_
      refine v_ic_ne_t (t := 25) rfl (by decide) ⟨by first | (clear ha2 hq0 hq1 hq3 hq4 hq5 hq6 h_1 h_2 h_3 h_4 h_5 h_6 h_7 h_8 h_9 h_10 h_11 h_32 h_47 h_141 h_142 h_143 h_144 h_145 h_146 h_147 h_148 h_149 h_150 h_151 h_152 h_153 h_154 h_155 h_156 h_157 h_159 h_12 h_21 h_158; omega) | omega, ⟨(Int.le_trans (by decide) (rg_eq hr_o0 h_8).1), (Int.le_trans (rg_eq hr_o0 h_8).2 (by decide))⟩, by decide, by decide⟩ ?_
      refine q_aload_n rfl rfl ?_
      refine v_cv rfl rfl rfl rfl (by decide) ⟨⟨rfl, rfl⟩, by decide, rfl⟩ (Nat.le_of_ble_eq_true rfl) (Nat.le_of_ble_eq_true rfl) ?_
      refine q_aload_n rfl rfl ?_
      refine v_gi (z := 5) (v := (-1)) rfl rfl rfl (by decide) rfl rfl (hid kn_164) ?_
      refine q_iconst rfl ?_
      refine v_ic_ne_f (t := 12) rfl (by decide) (by decide) ?_
      refine q_iconst rfl ?_
      refine q_goto (t := 13) rfl (by decide) ?_
      refine v_zret rfl rfl (by decide) ?_
      refine bk_inl ?_
      refine v_if_eq_f (t := 42) rfl (by decide) (by decide) ?_
      refine q_aload_n rfl rfl ?_
      refine q_dup rfl rfl ?_
      refine v_gi (z := 4) (v := (nx F e1 p0)) rfl rfl rfl (by decide) rfl rfl (h_163) ?_
      refine q_iload_n rfl rfl ?_
      refine v_iadd (v := (nx F e1 p0) + 1) rfl rfl ?_
      refine v_pi (z := 4) rfl rfl rfl (by decide) rfl rfl rfl (by decide) ?_
      refine q_aload_n rfl rfl ?_
      refine q_dup rfl rfl ?_
      refine v_gi (z := 7) (v := o0) rfl rfl rfl (by decide) rfl rfl ((up_n (by decide)).trans (hid kn_165)) ?_
      refine q_iconst rfl ?_
      refine v_iadd (v := o0 + 1) rfl rfl ?_
      refine v_pi (z := 7) rfl rfl rfl (by decide) rfl rfl rfl (by decide) ?_
      refine q_vret rfl rfl ?_
      refine bk_inl ?_
      refine q_aload_n rfl rfl ?_
      have hI_166 := iw_41_4 (v := (nx F e1 p0) + 1) hI_161 ⟨by first | exact rgp_l (rg_be h_10 ((rg_eq hg_p0 h_5).1) ((rg_eq hg_e1 h_1).2)).1 (by decide) | omega, by first | exact rgp_h (rg_be h_10 ((rg_eq hg_p0 h_5).1) ((rg_eq hg_e1 h_1).2)).2 (by decide) | omega⟩
      have hI_167 := iw_41_7 (v := o0 + 1) hI_166 ⟨by first | exact rgp_l (rg_eq hr_o0 h_8).1 (by decide) | omega, by first | (clear ha2 hq0 hq1 hq3 hq4 hq5 hq6 h_1 h_2 h_3 h_4 h_5 h_6 h_7 h_8 h_9 h_10 h_11 h_32 h_47 h_141 h_142 h_143 h_144 h_145 h_146 h_147 h_148 h_149 h_150 h_151 h_152 h_153 h_154 h_155 h_156 h_157 h_159 h_12 h_21 h_158; omega) | omega⟩
      have kn_168 : Hid (c_29 1 1 = e1) := (hF_31 1 1 (fun h => absurd h.2 (ni rfl))).trans (hid kn_28)
      have kn_169 : Hid (c_160 41 3 = e1) := (hF_162 41 3 (fun h => absurd h.2 (ni rfl))).trans (hr_e1)
      have kn_170 : Hid (c_18 1 5 = g0) := (hF_20 1 5 (fun h => absurd h.2 (ni rfl))).trans (hg_g0)
      have kn_171 : Hid (c_24 1 5 = g0) := (hF_26 1 5 (fun h => absurd h.2 (ni rfl))).trans (hid kn_170)
      have kn_172 : Hid (c_29 1 5 = g0) := (hF_31 1 5 (fun h => absurd h.2 (ni rfl))).trans (hid kn_171)
      have kn_173 : Hid (c_18 (A + 7) 5 = n0) := (hF_20 (A + 7) 5 (fun h => absurd h.1 (np hA rfl rfl))).trans (hg_n0)
      have kn_174 : Hid (c_24 (A + 7) 5 = n0) := (hF_26 (A + 7) 5 (fun h => absurd h.1 (np hA rfl rfl))).trans (hid kn_173)
      have kn_175 : Hid (c_29 (A + 7) 5 = n0) := (hF_31 (A + 7) 5 (fun h => absurd h.1 (np hA rfl rfl))).trans (hid kn_174)
      have kn_176 : Hid (c_160 41 29 = n0) := (hF_162 41 29 (fun h => absurd h.2 (ni rfl))).trans (hr_n0)
      have h_177 : c_29 1 4 = f0 := (hid kn_42)
      have h_178 : c_29 1 2 = (nx F e1 p0) + 1 := (hz_33)
      have h_179 : c_29 1 5 = g0 := (hid kn_172)
      have h_180 : (up (up c_160 41 4 ((nx F e1 p0) + 1)) 41 7 (o0 + 1)) 41 5 = (-1) := ((up_n (by decide)).trans ((up_n (by decide)).trans (hid kn_164)))
      have h_181 : (up (up c_160 41 4 ((nx F e1 p0) + 1)) 41 7 (o0 + 1)) 41 4 = (nx F e1 p0) + 1 := ((up_n (by decide)).trans (up_e rfl))
      have kn_182 : Hid (c_160 41 6 = c 41 6) := hF_162 41 6 (fun h => absurd h.2 (ni rfl))
      have h_183 : (up (up c_160 41 4 ((nx F e1 p0) + 1)) 41 7 (o0 + 1)) 41 6 = c 41 6 := ((up_n (by decide)).trans ((up_n (by decide)).trans (hid kn_182)))
      have hA_184 : Ce n0 (c_29 (A + 9)) ((up (up c_160 41 4 ((nx F e1 p0) + 1)) 41 7 (o0 + 1)) 50) ((up (up c_160 41 4 ((nx F e1 p0) + 1)) 41 7 (o0 + 1)) 51) := ce_fr hr0 (fun j => (hF_31 (A + 9) j (fun h => absurd h.1 (np hA rfl rfl))).trans ((hF_26 (A + 9) j (fun h => absurd h.1 (np hA rfl rfl))).trans (hF_20 (A + 9) j (fun h => absurd h.1 (np hA rfl rfl))))) (fun j => (up_c (nn rfl)).trans ((up_c (nn rfl)).trans (hF_162 50 j (fun h => absurd h.1 (nn rfl))))) (fun j => (up_c (nn rfl)).trans ((up_c (nn rfl)).trans (hF_162 51 j (fun h => absurd h.1 (nn rfl)))))
      refine v_cv rfl rfl rfl rfl (by decide) ⟨⟨rfl, rfl⟩, by decide, rfl⟩ (Nat.le_of_ble_eq_true rfl) (Nat.le_of_ble_eq_true rfl) (H13 (m := c_29) (e1 := e1) (f0 := f0) (g0 := g0) (p0 := (nx F e1 p0) + 1) (n0 := n0) (o0 := o0 + 1) (by omega) (by omega) hI_167 hI_30 hI_44 (show 0 ≤ a2 + 1 ∧ a2 + 1 ≤ 6 from ⟨by first | exact rgp_l ha2.1 (by decide) | omega, by first | (clear ha2 hq0 hq1 hq2 hq3 hq4 hq5 hq6 h_1 h_2 h_3 h_4 h_5 h_6 h_7 h_8 h_9 h_10 h_11 h_32 h_47 h_141 h_142 h_143 h_144 h_145 h_146 h_147 h_148 h_149 h_150 h_151 h_152 h_153 h_154 h_155 h_156 h_157 h_159 h_12 h_21 h_158; omega) | omega⟩) (by first | (clear ha2 hq1 hq2 hq3 hq4 hq5 hq6 h_1 h_2 h_3 h_4 h_5 h_6 h_7 h_8 h_9 h_10 h_11 h_32 h_39 h_47 h_141 h_142 h_143 h_144 h_145 h_146 h_147 h_148 h_149 h_150 h_151 h_152 h_153 h_154 h_155 h_156 h_157 h_159 h_12 h_21 h_158; omega) | omega) (by first | (clear ha2 hq0 hq2 hq3 hq4 hq5 hq6 h_1 h_2 h_3 h_4 h_5 h_6 h_7 h_8 h_9 h_10 h_11 h_32 h_39 h_47 h_141 h_142 h_143 h_144 h_145 h_146 h_147 h_148 h_149 h_150 h_151 h_152 h_153 h_154 h_155 h_156 h_157 h_159 h_12 h_21 h_158; omega) | omega) (by first | (clear ha2 hq0 hq1 hq3 hq4 hq5 hq6 h_1 h_2 h_3 h_4 h_5 h_6 h_7 h_8 h_9 h_10 h_11 h_32 h_39 h_47 h_141 h_142 h_143 h_144 h_145 h_146 h_147 h_148 h_149 h_150 h_151 h_152 h_153 h_154 h_155 h_156 h_157 h_159 h_12 h_21 h_158; omega) | omega) (by first | (clear ha2 hq0 hq1 hq2 hq4 hq5 hq6 h_1 h_2 h_3 h_4 h_5 h_6 h_7 h_8 h_9 h_11 h_32 h_39 h_47 h_141 h_142 h_143 h_144 h_145 h_146 h_147 h_148 h_149 h_150 h_151 h_152 h_153 h_154 h_155 h_156 h_157 h_159 h_12 h_21 h_158; omega) | omega) (by first | (clear ha2 hq0 hq1 hq2 hq3 hq4 hq5 h_1 h_2 h_3 h_4 h_5 h_6 h_7 h_8 h_9 h_10 h_11 h_32 h_39 h_47 h_141 h_142 h_143 h_144 h_145 h_146 h_147 h_148 h_149 h_150 h_151 h_152 h_153 h_154 h_155 h_156 h_157 h_159 h_12 h_21 h_158; omega) | omega) (by first | (clear ha2 hq0 hq1 hq2 hq3 hq4 hq6 h_1 h_2 h_3 h_4 h_5 h_6 h_7 h_8 h_9 h_10 h_11 h_32 h_39 h_47 h_141 h_142 h_143 h_144 h_145 h_146 h_147 h_148 h_149 h_150 h_151 h_152 h_153 h_154 h_155 h_156 h_157 h_159 h_12 h_21 h_158; omega) | omega) ((hid kn_168)) (((up_n (by decide)).trans ((up_n (by decide)).trans (hid kn_169)))) ((hid kn_42)) ((hid kn_172)) ((hz_33)) ((hid kn_175)) (((up_n (by decide)).trans ((up_n (by decide)).trans (hid kn_176)))) ((up_e rfl)) (fun j => ((hF_31 2 j (fun h => absurd h.1 (nn rfl))).trans ((hF_26 2 j (fun h => absurd h.1 (nn rfl))).trans (hF_20 2 j (fun h => absurd h.1 (nn rfl))))).trans (hF j)) (fun j => ((up_c (nn rfl)).trans ((up_c (nn rfl)).trans (hF_162 43 j (fun h => absurd h.1 (nn rfl))))).trans (hH j)) hU (rt_i1 ⟨by first | (clear ha2 hq1 hq2 hq3 hq4 hq5 hq6 h_1 h_2 h_3 h_4 h_5 h_6 h_7 h_8 h_9 h_10 h_11 h_32 h_39 h_47 h_141 h_142 h_143 h_144 h_145 h_146 h_147 h_148 h_149 h_150 h_151 h_152 h_153 h_154 h_155 h_156 h_157 h_159 h_12 h_21 h_158; omega) | omega, by first | (clear ha2 hq0 hq1 hq2 hq3 hq4 hq5 hq6 h_1 h_2 h_3 h_4 h_5 h_6 h_7 h_8 h_9 h_10 h_11 h_32 h_39 h_47 h_141 h_142 h_143 h_144 h_145 h_146 h_147 h_148 h_149 h_150 h_151 h_152 h_153 h_154 h_155 h_156 h_157 h_159 h_12 h_21 h_158; omega) | omega, by first | (clear ha2 hq0 hq1 hq2 hq3 hq4 hq5 hq6 h_1 h_2 h_3 h_4 h_5 h_6 h_7 h_8 h_9 h_10 h_11 h_32 h_39 h_47 h_141 h_142 h_143 h_144 h_145 h_146 h_147 h_148 h_149 h_150 h_151 h_152 h_153 h_154 h_155 h_156 h_157 h_159 h_12 h_21 h_158; omega) | omega, by first | (clear ha2 hq0 hq2 hq3 hq4 hq5 hq6 h_1 h_2 h_3 h_4 h_5 h_6 h_7 h_8 h_9 h_10 h_11 h_32 h_39 h_47 h_141 h_142 h_143 h_144 h_145 h_146 h_147 h_148 h_149 h_150 h_151 h_152 h_153 h_154 h_155 h_156 h_157 h_159 h_12 h_21 h_158; omega) | omega⟩) (ce_le hA_184 (by omega)) hG_46 (fun c_185 hI_186 hF_187 hR_189 h_190 h_191 hA_192 => ?_))
      refine bk_inl ?_
      have h_193 := ir_41_29 hI_186
      have h_194 := ir_41_7 hI_186
      refine q_aload_n rfl rfl ?_
      refine v_bip rfl (by decide) ?_
      have h_195 := ir_41_5 hI_186
      have h_196 := ir_41_4 hI_186
      have h_197 := ir_41_6 hI_186
      have h_198 := rt_bad hR_189 (by omega)
      have hrb_hR_189 := rt_bad hR_189 (by omega)
      refine v_cv rfl rfl rfl rfl (by decide) ⟨⟨rfl, rfl⟩, by decide, rfl⟩ (Nat.le_of_ble_eq_true rfl) (Nat.le_of_ble_eq_true rfl) ?_
      refine q_aload_n rfl rfl ?_
      refine v_cv rfl rfl rfl rfl (by decide) ⟨⟨rfl, rfl⟩, by decide, rfl⟩ (Nat.le_of_ble_eq_true rfl) (Nat.le_of_ble_eq_true rfl) ?_
      refine q_aload_n rfl rfl ?_
      refine v_gi (z := 5) (v := c_43 1 5) rfl rfl rfl (by decide) rfl rfl hrb_hR_189.2.1 ?_
      refine q_iconst rfl ?_
      refine v_ic_ne_t (t := 12) rfl (by decide) ⟨by first | (clear ha2 hq0 hq1 hq2 hq3 hq4 hq5 hq6 h_1 h_2 h_3 h_4 h_5 h_6 h_7 h_8 h_9 h_10 h_11 h_32 h_39 h_47 h_141 h_142 h_143 h_144 h_145 h_146 h_147 h_148 h_149 h_150 h_151 h_152 h_153 h_154 h_155 h_156 h_157 h_159 h_193 h_194 h_191 h_195 h_196 h_197 h_12 h_21 h_158 h_190; omega) | omega, ⟨(Int.le_trans (by decide) h_146.1), (Int.le_trans h_146.2 (by decide))⟩, by decide, by decide⟩ ?_
      refine q_iconst rfl ?_
      refine v_zret rfl rfl (by decide) ?_
      refine bk_inl ?_
      refine v_if_eq_t (t := 24) rfl (by decide) (by decide) ?_
      refine q_aload_n rfl rfl ?_
      refine v_cv rfl rfl rfl rfl (by decide) ⟨⟨rfl, rfl⟩, by decide, rfl⟩ (Nat.le_of_ble_eq_true rfl) (Nat.le_of_ble_eq_true rfl) ?_
      refine q_aload_n rfl rfl ?_
      refine v_gi (z := 5) (v := c_43 1 5) rfl rfl rfl (by decide) rfl rfl hrb_hR_189.2.1 ?_
      refine q_iconst rfl ?_
      refine v_ic_ne_t (t := 12) rfl (by decide) ⟨by first | (clear ha2 hq0 hq1 hq2 hq3 hq4 hq5 hq6 h_1 h_2 h_3 h_4 h_5 h_6 h_7 h_8 h_9 h_10 h_11 h_32 h_39 h_47 h_141 h_142 h_143 h_144 h_145 h_146 h_147 h_148 h_149 h_150 h_151 h_152 h_153 h_154 h_155 h_156 h_157 h_159 h_193 h_194 h_191 h_195 h_196 h_197 h_12 h_21 h_158 h_190; omega) | omega, ⟨(Int.le_trans (by decide) h_146.1), (Int.le_trans h_146.2 (by decide))⟩, by decide, by decide⟩ ?_
      refine q_iconst rfl ?_
      refine v_zret rfl rfl (by decide) ?_
      refine bk_inl ?_
      refine v_if_eq_t (t := 41) rfl (by decide) (by decide) ?_
      refine q_vret rfl rfl ?_
      refine bk_inl ?_
      refine q_aload_n rfl rfl ?_
      refine q_dup rfl rfl ?_
      refine v_gi (z := 7) (v := c_185 41 7) rfl rfl rfl (by decide) rfl rfl rfl ?_
      refine q_iconst rfl ?_
      refine v_isub (v := c_185 41 7 - 1) rfl rfl ?_
      refine v_pi (z := 7) rfl rfl rfl (by decide) rfl rfl rfl (by decide) ?_
      refine q_goto (t := 154) rfl (by decide) ?_
      refine q_vret rfl rfl ?_
      have hI_199 := iw_41_7 (v := c_185 41 7 - 1) hI_186 ⟨by first | (clear hq0 hq1 hq2 hq3 hq4 hq5 hq6 h_1 h_2 h_3 h_4 h_5 h_6 h_7 h_8 h_9 h_10 h_11 h_32 h_39 h_47 h_141 h_142 h_143 h_144 h_145 h_146 h_147 h_148 h_149 h_150 h_151 h_152 h_153 h_154 h_155 h_156 h_157 h_159 h_193 h_194 h_195 h_196 h_197 h_198 h_12 h_21 h_158 h_190; omega) | omega, by first | exact rgm_h h_194.2 (by decide) | omega⟩
      have h_200 : (up c_185 41 7 (c_185 41 7 - 1)) 41 5 = c_43 1 5 := (((up_n (by decide))).trans (hrb_hR_189.2.1))
      have h_201 : (up c_185 41 7 (c_185 41 7 - 1)) 41 4 = c_185 41 4 := (up_n (by decide))
      have h_202 : (up c_185 41 7 (c_185 41 7 - 1)) 41 6 = c_43 1 4 := (((up_n (by decide))).trans (hrb_hR_189.2.2.2))
      have h_203 : (up c_185 41 7 (c_185 41 7 - 1)) 41 29 = c_185 41 29 := (up_n (by decide))
      have h_204 : (up c_185 41 7 (c_185 41 7 - 1)) 41 7 = c_185 41 7 - 1 := (up_e rfl)
      have h_205 : (up c_185 41 7 (c_185 41 7 - 1)) 41 29 = c_185 41 29 := (up_n (by decide))
      exact K (up c_185 41 7 (c_185 41 7 - 1))  hI_199 (fun a j hm => (up_b (Decidable.or_iff_not_imp_left.mpr (fun h1 h2 => hm (Or.inr (Or.inr (Or.inr (Or.inl ⟨Decidable.not_not.mp h1, h2⟩))))))).trans ((hF_187 a j (fun q => q.elim (fun h => hm (Or.inl h)) (fun q => q.elim (fun h => hm (Or.inr (Or.inl h))) (fun q => q.elim (fun h => hm (Or.inr (Or.inr (Or.inl h)))) (fun q => q.elim (fun h => hm (Or.inr (Or.inr (Or.inr (Or.inl h))))) (fun q => q.elim (fun h => hm (Or.inr (Or.inr (Or.inr (Or.inr (Or.inl h)))))) (fun q => q.elim (fun h => hm (Or.inr (Or.inr (Or.inr (Or.inr (Or.inr (Or.inl h))))))) (fun h => hm (Or.inr (Or.inr (Or.inr (Or.inr (Or.inr (Or.inr h)))))))))))))).trans ((up_b (Decidable.or_iff_not_imp_left.mpr (fun h1 h2 => hm (Or.inr (Or.inr (Or.inr (Or.inl ⟨Decidable.not_not.mp h1, h2⟩))))))).trans ((up_b (Decidable.or_iff_not_imp_left.mpr (fun h1 h2 => hm (Or.inl ⟨Decidable.not_not.mp h1, h2⟩)))).trans (hF_162 a j (fun h => hm (Or.inl h))))))) (rt_i2 ⟨⟨by first | (clear ha2 hq0 hq1 hq2 hq3 hq4 hq5 hq6 h_1 h_2 h_3 h_4 h_5 h_6 h_7 h_8 h_9 h_10 h_11 h_32 h_39 h_47 h_141 h_143 h_144 h_145 h_146 h_147 h_148 h_149 h_150 h_151 h_152 h_153 h_154 h_155 h_156 h_157 h_159 h_193 h_194 h_191 h_195 h_196 h_197 h_12 h_21 h_158 h_190; omega) | omega, by first | (clear ha2 hq0 hq1 hq2 hq3 hq4 hq5 hq6 h_1 h_2 h_3 h_4 h_5 h_6 h_7 h_8 h_9 h_10 h_11 h_32 h_39 h_47 h_142 h_143 h_144 h_145 h_146 h_147 h_148 h_149 h_150 h_151 h_152 h_153 h_154 h_155 h_156 h_157 h_159 h_193 h_194 h_191 h_195 h_196 h_197 h_198 h_12 h_21 h_158 h_190; omega) | omega⟩, by first | (clear ha2 hq0 hq1 hq2 hq3 hq4 hq5 hq6 h_1 h_2 h_3 h_4 h_5 h_6 h_7 h_8 h_9 h_10 h_11 h_32 h_39 h_47 h_141 h_142 h_143 h_144 h_145 h_146 h_147 h_149 h_150 h_151 h_152 h_153 h_154 h_155 h_156 h_157 h_159 h_193 h_194 h_191 h_195 h_196 h_197 h_198 h_12 h_21 h_158 h_190; omega) | omega, by first | (clear ha2 hq0 hq1 hq2 hq3 hq4 hq5 hq6 h_1 h_2 h_3 h_4 h_5 h_6 h_7 h_8 h_9 h_10 h_11 h_32 h_39 h_47 h_141 h_142 h_143 h_144 h_145 h_146 h_147 h_149 h_150 h_151 h_152 h_153 h_154 h_155 h_156 h_157 h_159 h_193 h_194 h_191 h_195 h_196 h_197 h_12 h_21 h_158 h_190; omega) | omega, by first | (clear ha2 hq0 hq1 hq2 hq3 hq4 hq5 hq6 h_1 h_2 h_3 h_4 h_5 h_6 h_7 h_8 h_9 h_10 h_11 h_32 h_39 h_47 h_141 h_143 h_144 h_145 h_146 h_147 h_148 h_149 h_150 h_151 h_152 h_153 h_154 h_155 h_156 h_157 h_159 h_193 h_194 h_191 h_195 h_196 h_197 h_198 h_12 h_21 h_158 h_190; omega) | omega⟩) (Or.inr (Or.inl (by first | (clear ha2 hq0 hq1 hq2 hq3 hq4 hq5 hq6 h_1 h_2 h_3 h_4 h_5 h_6 h_7 h_8 h_9 h_10 h_11 h_32 h_39 h_47 h_141 h_143 h_144 h_145 h_146 h_147 h_148 h_149 h_150 h_151 h_152 h_153 h_154 h_155 h_156 h_157 h_159 h_193 h_194 h_191 h_195 h_196 h_197 h_12 h_21 h_158 h_190; omega) | omega))) (by first | (clear ha2 hq0 hq1 hq2 hq3 hq4 hq5 hq6 h_1 h_2 h_3 h_4 h_5 h_6 h_7 h_8 h_9 h_10 h_11 h_32 h_39 h_47 h_141 h_142 h_143 h_144 h_145 h_146 h_147 h_148 h_149 h_150 h_151 h_152 h_153 h_154 h_155 h_156 h_157 h_159 h_193 h_194 h_195 h_196 h_197 h_198 h_12 h_21 h_158 h_190; omega) | omega) (fun hz => absurd hz (by omega))
  · refine v_ic_lt_f (t := 94) rfl (by decide) ⟨by decide, (Int.not_lt.mp h_39), (Int.le_trans ha2.2 (by decide))⟩ ?_
    refine q_aload_n rfl rfl ?_
    refine q_iconst rfl ?_
    refine q_iload_n rfl rfl ?_
    refine v_cv rfl rfl rfl rfl (by decide) ⟨⟨rfl, rfl⟩, by decide, rfl⟩ (Nat.le_of_ble_eq_true rfl) (Nat.le_of_ble_eq_true rfl) ?_
    refine q_aload_n rfl rfl ?_
    have kn_206 : Hid (c_18 1 4 = f0) := (hF_20 1 4 (fun h => absurd h.2 (ni rfl))).trans (hg_f0)
    have kn_207 : Hid (c_24 1 4 = f0) := (hF_26 1 4 (fun h => absurd h.2 (ni rfl))).trans (hid kn_206)
    have kn_208 : Hid (c_29 1 4 = f0) := (hF_31 1 4 (fun h => absurd h.2 (ni rfl))).trans (hid kn_207)
    refine v_gi (z := 4) (v := f0) rfl rfl rfl (by decide) rfl rfl (hid kn_208) ?_
    refine v_if_ne_f (t := 17) rfl (by decide) (by first | (clear ha2 hq1 hq2 hq3 hq4 hq5 hq6 h_1 h_2 h_3 h_4 h_5 h_6 h_7 h_8 h_9 h_10 h_11 h_32 h_12 h_21; omega) | omega) ?_
    refine q_aload_n rfl rfl ?_
    refine q_iload_n rfl rfl ?_
    refine v_pi (z := 4) rfl rfl rfl (by decide) rfl rfl rfl (by decide) ?_
    refine q_aload_n rfl rfl ?_
    refine q_iload_n rfl rfl ?_
    refine v_pi (z := 5) rfl rfl rfl (by decide) rfl rfl rfl (by decide) ?_
    refine q_vret rfl rfl ?_
    refine bk_inl ?_
    refine q_aload_n rfl rfl ?_
    refine v_cv rfl rfl rfl rfl (by decide) ⟨⟨rfl, rfl⟩, by decide, rfl⟩ (Nat.le_of_ble_eq_true rfl) (Nat.le_of_ble_eq_true rfl) ?_
    refine q_aload_n rfl rfl ?_
    refine v_gi (z := 4) (v := 3) rfl rfl rfl (by decide) rfl rfl ((up_n (by decide)).trans (up_e rfl)) ?_
    refine v_if_ne_t (t := 11) rfl (by decide) (by decide) ?_
    refine q_iconst rfl ?_
    refine v_zret rfl rfl (by decide) ?_
    refine bk_inl ?_
    refine v_if_ne_f (t := 102) rfl (by decide) (by decide) ?_
    refine q_vret rfl rfl ?_
    have hI_209 := iw_1_4 (v := 3) hI_30 ⟨by decide, by decide⟩
    have hI_210 := iw_1_5 (v := (nx F e1 p0)) hI_209 ⟨(Int.le_trans (by decide) (rg_be h_10 ((rg_eq hg_p0 h_5).1) ((rg_eq hg_e1 h_1).2)).1), (rg_be h_10 ((rg_eq hg_p0 h_5).1) ((rg_eq hg_e1 h_1).2)).2⟩
    intro hE_211
    have hW : Wd P Q P P (up (up c_29 1 4 3) 1 5 (nx F e1 p0)) = Wd P Q P P m9 := (Prod.mk.inj (Prod.mk.inj hE_211).2).1
    have h_212 := ir_1_4 hJ9
    have h_213 : m9 1 4 = 3 := wd_fv (z := 4) 4 rfl hW rfl rfl rfl rfl (by decide) ((up_n (by decide)).trans (up_e rfl)) ⟨by decide, by decide⟩ ⟨(Int.le_trans (by decide) h_212.1), (Int.le_trans h_212.2 (by decide))⟩
    have h_214 := ir_1_2 hJ9
    have h_215 : m9 1 2 = (nx F e1 p0) + 1 := wd_fv (z := 2) 2 rfl hW rfl rfl rfl rfl (by decide) ((up_n (by decide)).trans ((up_n (by decide)).trans (hz_33))) ⟨by first | exact rgp_l (rg_be h_10 ((rg_eq hg_p0 h_5).1) ((rg_eq hg_e1 h_1).2)).1 (by decide) | omega, by first | exact rgp_h (rg_be h_10 ((rg_eq hg_p0 h_5).1) ((rg_eq hg_e1 h_1).2)).2 (by decide) | omega⟩ ⟨(Int.le_trans (by decide) h_214.1), (Int.le_trans h_214.2 (by decide))⟩
    have h_216 := ir_1_5 hJ9
    have h_217 : m9 1 5 = (nx F e1 p0) := wd_fv (z := 5) 5 rfl hW rfl rfl rfl rfl (by decide) (up_e rfl) ⟨(Int.le_trans (by decide) (rg_be h_10 ((rg_eq hg_p0 h_5).1) ((rg_eq hg_e1 h_1).2)).1), (Int.le_trans (rg_be h_10 ((rg_eq hg_p0 h_5).1) ((rg_eq hg_e1 h_1).2)).2 (by decide))⟩ ⟨(Int.le_trans (by decide) h_216.1), (Int.le_trans h_216.2 (by decide))⟩
    have kn_218 : Hid (c_18 (A + 7) 5 = n0) := (hF_20 (A + 7) 5 (fun h => absurd h.1 (np hA rfl rfl))).trans (hg_n0)
    have kn_219 : Hid (c_24 (A + 7) 5 = n0) := (hF_26 (A + 7) 5 (fun h => absurd h.1 (np hA rfl rfl))).trans (hid kn_218)
    have kn_220 : Hid (c_29 (A + 7) 5 = n0) := (hF_31 (A + 7) 5 (fun h => absurd h.1 (np hA rfl rfl))).trans (hid kn_219)
    have h_221 := ir_p7_5 hJ9 hA
    have h_222 : m9 (A + 7) 5 = n0 := wd_fv (z := 5) 5 rfl hW (ck_p7 hA) (ck_p7 hA) rfl rfl (by omega) ((up_c (np hA rfl rfl)).trans ((up_c (np hA rfl rfl)).trans (hid kn_220))) ⟨(Int.le_trans (by decide) (rg_eq hg_n0 h_6).1), (Int.le_trans (rg_eq hg_n0 h_6).2 (by decide))⟩ ⟨(Int.le_trans (by decide) h_221.1), (Int.le_trans h_221.2 (by decide))⟩
    refine q_aload_n rfl rfl ?_
    refine v_cv rfl rfl rfl rfl (by decide) ⟨⟨rfl, rfl⟩, by decide, rfl⟩ (Nat.le_of_ble_eq_true rfl) (Nat.le_of_ble_eq_true rfl) ?_
    refine q_aload_n rfl rfl ?_
    have h_223 := ir_41_5 hI
    have h_224 := ir_41_4 hI
    have h_225 := ir_41_6 hI
    have h_226 := rt_ok hRt (by omega)
    have hro_hRt := rt_ok hRt (by omega)
    refine v_gi (z := 5) (v := (-1)) rfl rfl rfl (by decide) rfl rfl hro_hRt.2.1 ?_
    refine q_iconst rfl ?_
    refine v_ic_ne_f (t := 12) rfl (by decide) (by decide) ?_
    refine q_iconst rfl ?_
    refine q_goto (t := 13) rfl (by decide) ?_
    refine v_zret rfl rfl (by decide) ?_
    refine bk_inl ?_
    refine v_if_ne_t (t := 8) rfl (by decide) (by decide) ?_
    refine q_aload_n rfl rfl ?_
    have h_227 : -2147483648 ≤ (H (nx F e1 p0)) ∧ (H (nx F e1 p0)) ≤ 2147483647 := by rw [← hH (nx F e1 p0)]; exact ir_43 hI (nx F e1 p0)
    have h_228 := hU (nx F e1 p0) (by omega) (by omega)
    have h_229 := hb_or (b := H) (e := e1) (r := (nx F e1 p0))
    have h_230 := hb_bd (b := H) (e := e1) (r := (nx F e1 p0)) (lo := -2147483648) (hi := 2147483647) h_227 (by decide)
    refine v_cv rfl rfl rfl rfl (by decide) ⟨⟨rfl, rfl⟩, by decide, rfl⟩ (Nat.le_of_ble_eq_true rfl) (Nat.le_of_ble_eq_true rfl) (f_154 (e1 := e1) (a9 := p0) (B := H) (r8 := (nx F e1 p0)) (r := (hb H e1 (nx F e1 p0))) hI ((hr_e1)) (((hro_hRt.2.2.1).trans ((hg_p0)))) (fun j => hH j) ((nx_tr hU (by first | (clear ha2 hq0 hq1 hq2 hq3 hq4 hq5 hq6 h_1 h_2 h_3 h_4 h_6 h_7 h_8 h_9 h_10 h_11 h_32 h_212 h_213 h_214 h_215 h_216 h_217 h_221 h_222 h_223 h_224 h_225 h_226 h_12 h_21; omega) | omega) (by first | (clear ha2 hq0 hq1 hq2 hq3 hq4 hq6 h_1 h_2 h_3 h_4 h_5 h_6 h_7 h_8 h_9 h_10 h_11 h_32 h_212 h_213 h_214 h_215 h_216 h_217 h_221 h_222 h_223 h_224 h_225 h_226 h_12 h_21; omega) | omega)).trans (rfl)) rfl (fun c_231 hI_232 hF_233 h_234 => ?_))
    refine bk_inl ?_
    refine v_bip rfl (by decide) ?_
    refine v_ic_ne_f (t := 45) rfl (by decide) (by first | (clear ha2 hq0 hq1 hq2 hq3 h_3 h_4 h_5 h_6 h_7 h_8 h_9 h_11 h_212 h_213 h_214 h_216 h_221 h_222 h_223 h_224 h_225 h_226; omega) | omega) ?_
    refine q_aload_n rfl rfl ?_
    refine q_iconst rfl ?_
    refine v_cv rfl rfl rfl rfl (by decide) ⟨⟨rfl, rfl⟩, by decide, rfl⟩ (Nat.le_of_ble_eq_true rfl) (Nat.le_of_ble_eq_true rfl) ?_
    refine q_aload_n rfl rfl ?_
    refine v_cv rfl rfl rfl rfl (by decide) ⟨⟨rfl, rfl⟩, by decide, rfl⟩ (Nat.le_of_ble_eq_true rfl) (Nat.le_of_ble_eq_true rfl) ?_
    refine q_aload_n rfl rfl ?_
    have kn_235 : Hid (c_231 41 5 = (-1)) := (hF_233 41 5 (fun h => absurd h.2 (ni rfl))).trans hro_hRt.2.1
    refine v_gi (z := 5) (v := (-1)) rfl rfl rfl (by decide) rfl rfl (hid kn_235) ?_
    refine q_iconst rfl ?_
    refine v_ic_ne_f (t := 12) rfl (by decide) (by decide) ?_
    refine q_iconst rfl ?_
    refine q_goto (t := 13) rfl (by decide) ?_
    refine v_zret rfl rfl (by decide) ?_
    refine bk_inl ?_
    refine v_if_eq_f (t := 25) rfl (by decide) (by decide) ?_
    refine q_aload_n rfl rfl ?_
    have kn_236 : Hid (c_231 41 7 = o0) := (hF_233 41 7 (fun h => absurd h.2 (ni rfl))).trans (hr_o0)
    refine v_gi (z := 7) (v := o0) rfl rfl rfl (by decide) rfl rfl (hid kn_236) ?_
    refine v_bip rfl (by decide) ?_
    refine v_ic_ne_f (t := 25) rfl (by decide) (by first | (clear hq0 hq1 hq3 hq4 hq5 hq6 h_1 h_2 h_3 h_4 h_5 h_6 h_7 h_8 h_9 h_10 h_11 h_32 h_212 h_213 h_214 h_215 h_216 h_217 h_221 h_222 h_223 h_224 h_225 h_226 h_227 h_228 h_230 h_12 h_21 h_229; omega) | omega) ?_
    refine q_aload_n rfl rfl ?_
    refine q_iconst rfl ?_
    refine q_aload_n rfl rfl ?_
    refine v_gi (z := 4) (v := (nx F e1 p0)) rfl rfl rfl (by decide) rfl rfl (h_234) ?_
    refine v_cv rfl rfl rfl rfl (by decide) ⟨⟨rfl, rfl⟩, by decide, rfl⟩ (Nat.le_of_ble_eq_true rfl) (Nat.le_of_ble_eq_true rfl) ?_
    refine q_aload_n rfl rfl ?_
    refine v_gi (z := 5) (v := (-1)) rfl rfl rfl (by decide) rfl rfl (hid kn_235) ?_
    refine q_iconst rfl ?_
    refine v_ic_eq_t (t := 9) rfl (by decide) (by decide) ?_
    refine q_aload_n rfl rfl ?_
    refine q_iload_n rfl rfl ?_
    refine v_pi (z := 5) rfl rfl rfl (by decide) rfl rfl rfl (by decide) ?_
    refine q_aload_n rfl rfl ?_
    refine q_iload_n rfl rfl ?_
    refine v_pi (z := 6) rfl rfl rfl (by decide) rfl rfl rfl (by decide) ?_
    refine q_vret rfl rfl ?_
    refine bk_inl ?_
    refine q_aload_n rfl rfl ?_
    refine v_cv rfl rfl rfl rfl (by decide) ⟨⟨rfl, rfl⟩, by decide, rfl⟩ (Nat.le_of_ble_eq_true rfl) (Nat.le_of_ble_eq_true rfl) ?_
    refine q_aload_n rfl rfl ?_
    refine v_gi (z := 5) (v := (nx F e1 p0)) rfl rfl rfl (by decide) rfl rfl ((up_n (by decide)).trans (up_e rfl)) ?_
    refine q_iconst rfl ?_
    refine v_ic_ne_t (t := 12) rfl (by decide) ⟨(ne_rg (rg_be h_10 ((rg_eq hg_p0 h_5).1) ((rg_eq hg_e1 h_1).2)) (by decide)), ⟨(Int.le_trans (by decide) (rg_be h_10 ((rg_eq hg_p0 h_5).1) ((rg_eq hg_e1 h_1).2)).1), (Int.le_trans (rg_be h_10 ((rg_eq hg_p0 h_5).1) ((rg_eq hg_e1 h_1).2)).2 (by decide))⟩, by decide, by decide⟩ ?_
    refine q_iconst rfl ?_
    refine v_zret rfl rfl (by decide) ?_
    refine bk_inl ?_
    refine v_if_eq_t (t := 42) rfl (by decide) (by decide) ?_
    refine q_aload_n rfl rfl ?_
    refine q_dup rfl rfl ?_
    refine v_gi (z := 7) (v := o0) rfl rfl rfl (by decide) rfl rfl ((up_n (by decide)).trans ((up_n (by decide)).trans (hid kn_236))) ?_
    refine q_iconst rfl ?_
    refine v_iadd (v := o0 + 1) rfl rfl ?_
    refine v_pi (z := 7) rfl rfl rfl (by decide) rfl rfl rfl (by decide) ?_
    refine q_vret rfl rfl ?_
    refine bk_inl ?_
    refine q_aload_n rfl rfl ?_
    have hI_237 := iw_41_5 (v := (nx F e1 p0)) hI_232 ⟨(Int.le_trans (by decide) (rg_be h_10 ((rg_eq hg_p0 h_5).1) ((rg_eq hg_e1 h_1).2)).1), (Int.le_trans (rg_be h_10 ((rg_eq hg_p0 h_5).1) ((rg_eq hg_e1 h_1).2)).2 (by decide))⟩
    have hI_238 := iw_41_6 (v := 3) hI_237 ⟨by decide, by decide⟩
    have hI_239 := iw_41_7 (v := o0 + 1) hI_238 ⟨by first | exact rgp_l (rg_eq hr_o0 h_8).1 (by decide) | omega, by first | (clear hq0 hq1 hq3 hq4 hq5 hq6 h_1 h_2 h_3 h_4 h_5 h_6 h_7 h_8 h_9 h_10 h_11 h_32 h_212 h_213 h_214 h_215 h_216 h_217 h_221 h_222 h_223 h_224 h_225 h_226 h_227 h_228 h_230 h_12 h_21 h_229; omega) | omega⟩
    have h_240 : ¬ (up (up (up c_231 41 5 (nx F e1 p0)) 41 6 3) 41 7 (o0 + 1)) 41 5 = -1 := by rw [show (up (up (up c_231 41 5 (nx F e1 p0)) 41 6 3) 41 7 (o0 + 1)) 41 5 = (nx F e1 p0) from ((up_n (by decide)).trans ((up_n (by decide)).trans (up_e rfl)))]; omega
    refine v_cv rfl rfl rfl rfl (by decide) ⟨⟨rfl, rfl⟩, by decide, rfl⟩ (Nat.le_of_ble_eq_true rfl) (Nat.le_of_ble_eq_true rfl) (n_174 hI_239 (by omega) ?_)
    refine bk_inl ?_
    refine q_aload_n rfl rfl ?_
    refine v_bip rfl (by decide) ?_
    refine v_cv rfl rfl rfl rfl (by decide) ⟨⟨rfl, rfl⟩, by decide, rfl⟩ (Nat.le_of_ble_eq_true rfl) (Nat.le_of_ble_eq_true rfl) ?_
    refine q_aload_n rfl rfl ?_
    refine v_cv rfl rfl rfl rfl (by decide) ⟨⟨rfl, rfl⟩, by decide, rfl⟩ (Nat.le_of_ble_eq_true rfl) (Nat.le_of_ble_eq_true rfl) ?_
    refine q_aload_n rfl rfl ?_
    refine v_gi (z := 5) (v := (nx F e1 p0)) rfl rfl rfl (by decide) rfl rfl ((up_n (by decide)).trans ((up_n (by decide)).trans (up_e rfl))) ?_
    refine q_iconst rfl ?_
    refine v_ic_ne_t (t := 12) rfl (by decide) ⟨(ne_rg (rg_be h_10 ((rg_eq hg_p0 h_5).1) ((rg_eq hg_e1 h_1).2)) (by decide)), ⟨(Int.le_trans (by decide) (rg_be h_10 ((rg_eq hg_p0 h_5).1) ((rg_eq hg_e1 h_1).2)).1), (Int.le_trans (rg_be h_10 ((rg_eq hg_p0 h_5).1) ((rg_eq hg_e1 h_1).2)).2 (by decide))⟩, by decide, by decide⟩ ?_
    refine q_iconst rfl ?_
    refine v_zret rfl rfl (by decide) ?_
    refine bk_inl ?_
    refine v_if_eq_t (t := 24) rfl (by decide) (by decide) ?_
    refine q_aload_n rfl rfl ?_
    refine v_cv rfl rfl rfl rfl (by decide) ⟨⟨rfl, rfl⟩, by decide, rfl⟩ (Nat.le_of_ble_eq_true rfl) (Nat.le_of_ble_eq_true rfl) ?_
    refine q_aload_n rfl rfl ?_
    refine v_gi (z := 5) (v := (nx F e1 p0)) rfl rfl rfl (by decide) rfl rfl ((up_n (by decide)).trans ((up_n (by decide)).trans (up_e rfl))) ?_
    refine q_iconst rfl ?_
    refine v_ic_ne_t (t := 12) rfl (by decide) ⟨(ne_rg (rg_be h_10 ((rg_eq hg_p0 h_5).1) ((rg_eq hg_e1 h_1).2)) (by decide)), ⟨(Int.le_trans (by decide) (rg_be h_10 ((rg_eq hg_p0 h_5).1) ((rg_eq hg_e1 h_1).2)).1), (Int.le_trans (rg_be h_10 ((rg_eq hg_p0 h_5).1) ((rg_eq hg_e1 h_1).2)).2 (by decide))⟩, by decide, by decide⟩ ?_
    refine q_iconst rfl ?_
    refine v_zret rfl rfl (by decide) ?_
    refine bk_inl ?_
    refine v_if_eq_t (t := 41) rfl (by decide) (by decide) ?_
    refine q_vret rfl rfl ?_
    refine bk_inl ?_
    refine q_aload_n rfl rfl ?_
    refine q_dup rfl rfl ?_
    refine v_gi (z := 7) (v := o0 + 1) rfl rfl rfl (by decide) rfl rfl (up_e rfl) ?_
    refine q_iconst rfl ?_
    refine v_isub (v := o0) rfl (by first | (clear ha2 hq0 hq1 hq2 hq3 hq4 hq5 hq6 h_1 h_2 h_3 h_4 h_5 h_6 h_7 h_8 h_9 h_10 h_11 h_32 h_212 h_213 h_214 h_215 h_216 h_217 h_221 h_222 h_223 h_224 h_225 h_226 h_227 h_228 h_230 h_12 h_21 h_229; omega) | omega) ?_
    refine v_pi (z := 7) rfl rfl rfl (by decide) rfl rfl rfl (by decide) ?_
    refine q_goto (t := 154) rfl (by decide) ?_
    refine q_vret rfl rfl ?_
    have hI_241 := iw_41_7 (v := o0) hI_239 ⟨(rg_eq hr_o0 h_8).1, (rg_eq hr_o0 h_8).2⟩
    have h_242 : (up (up (up (up c_231 41 5 (nx F e1 p0)) 41 6 3) 41 7 (o0 + 1)) 41 7 o0) 41 5 = (nx F e1 p0) := ((up_n (by decide)).trans ((up_n (by decide)).trans ((up_n (by decide)).trans (up_e rfl))))
    have h_243 : (up (up (up (up c_231 41 5 (nx F e1 p0)) 41 6 3) 41 7 (o0 + 1)) 41 7 o0) 41 4 = (nx F e1 p0) := ((up_n (by decide)).trans ((up_n (by decide)).trans ((up_n (by decide)).trans ((up_n (by decide)).trans (h_234)))))
    have h_244 : (up (up (up (up c_231 41 5 (nx F e1 p0)) 41 6 3) 41 7 (o0 + 1)) 41 7 o0) 41 6 = 3 := ((up_n (by decide)).trans ((up_n (by decide)).trans (up_e rfl)))
    have kn_245 : Hid (c_231 41 29 = n0) := (hF_233 41 29 (fun h => absurd h.2 (ni rfl))).trans (hr_n0)
    have h_246 : (up (up (up (up c_231 41 5 (nx F e1 p0)) 41 6 3) 41 7 (o0 + 1)) 41 7 o0) 41 29 = n0 := ((up_n (by decide)).trans ((up_n (by decide)).trans ((up_n (by decide)).trans ((up_n (by decide)).trans (hid kn_245)))))
    have h_247 : (up (up (up (up c_231 41 5 (nx F e1 p0)) 41 6 3) 41 7 (o0 + 1)) 41 7 o0) 41 7 = o0 := (up_e rfl)
    have h_248 : (up (up (up (up c_231 41 5 (nx F e1 p0)) 41 6 3) 41 7 (o0 + 1)) 41 7 o0) 41 29 = n0 := ((up_n (by decide)).trans ((up_n (by decide)).trans ((up_n (by decide)).trans ((up_n (by decide)).trans (hid kn_245)))))
    exact K (up (up (up (up c_231 41 5 (nx F e1 p0)) 41 6 3) 41 7 (o0 + 1)) 41 7 o0)  hI_241 (fun a j hm => (up_b (Decidable.or_iff_not_imp_left.mpr (fun h1 h2 => hm (Or.inr (Or.inr (Or.inr (Or.inl ⟨Decidable.not_not.mp h1, h2⟩))))))).trans ((up_b (Decidable.or_iff_not_imp_left.mpr (fun h1 h2 => hm (Or.inr (Or.inr (Or.inr (Or.inl ⟨Decidable.not_not.mp h1, h2⟩))))))).trans ((up_b (Decidable.or_iff_not_imp_left.mpr (fun h1 h2 => hm (Or.inr (Or.inr (Or.inl ⟨Decidable.not_not.mp h1, h2⟩)))))).trans ((up_b (Decidable.or_iff_not_imp_left.mpr (fun h1 h2 => hm (Or.inr (Or.inl ⟨Decidable.not_not.mp h1, h2⟩))))).trans (hF_233 a j (fun h => hm (Or.inl h))))))) (rt_i2 ⟨⟨by first | (clear ha2 hq0 hq1 hq2 hq3 hq4 hq5 hq6 h_1 h_2 h_3 h_4 h_5 h_6 h_7 h_8 h_9 h_10 h_11 h_32 h_212 h_214 h_215 h_216 h_217 h_221 h_222 h_223 h_224 h_225 h_226 h_227 h_228 h_230 h_12 h_21 h_229; omega) | omega, by first | (clear ha2 hq0 hq1 hq2 hq3 hq4 hq5 hq6 h_1 h_2 h_3 h_4 h_5 h_6 h_7 h_8 h_9 h_10 h_11 h_32 h_213 h_214 h_215 h_216 h_217 h_221 h_222 h_223 h_224 h_225 h_226 h_227 h_228 h_230 h_12 h_21 h_229; omega) | omega⟩, by first | (clear ha2 hq0 hq1 hq2 hq3 hq4 hq5 hq6 h_1 h_2 h_3 h_4 h_5 h_6 h_7 h_8 h_9 h_10 h_11 h_32 h_212 h_213 h_214 h_215 h_216 h_221 h_222 h_223 h_224 h_225 h_226 h_227 h_228 h_230 h_12 h_21 h_229; omega) | omega, by first | (clear ha2 hq0 hq1 hq2 hq3 hq4 hq5 hq6 h_1 h_2 h_3 h_4 h_6 h_7 h_8 h_9 h_11 h_32 h_212 h_213 h_214 h_215 h_216 h_221 h_222 h_223 h_224 h_225 h_226 h_227 h_228 h_230 h_12 h_21 h_229; omega) | omega, by first | (clear ha2 hq0 hq1 hq2 hq3 hq4 hq5 hq6 h_1 h_2 h_3 h_4 h_5 h_6 h_7 h_8 h_9 h_10 h_11 h_32 h_214 h_215 h_216 h_217 h_221 h_222 h_223 h_224 h_225 h_226 h_227 h_228 h_230 h_12 h_21 h_229; omega) | omega⟩) (Or.inr (Or.inl (by first | (clear ha2 hq0 hq1 hq2 hq3 hq4 hq5 hq6 h_1 h_2 h_3 h_4 h_5 h_6 h_7 h_8 h_9 h_10 h_11 h_32 h_212 h_214 h_215 h_216 h_217 h_221 h_222 h_223 h_224 h_225 h_226 h_227 h_228 h_230 h_12 h_21 h_229; omega) | omega))) (by first | (clear ha2 hq0 hq1 hq3 hq4 hq5 hq6 h_1 h_2 h_3 h_4 h_5 h_6 h_7 h_8 h_9 h_10 h_11 h_32 h_212 h_213 h_214 h_215 h_216 h_217 h_221 h_222 h_223 h_224 h_225 h_226 h_227 h_228 h_230 h_12 h_21 h_229; omega) | omega) (fun hz => absurd hz (by omega))

