/-! ===== class and reference side by side 8 ===== -/
set_option maxRecDepth 100000 in
set_option maxHeartbeats 4000000 in
theorem L_14_e {sc : List Int32} {e eg : Int} {d dh u ug P Q P2 Q2 A : Nat} {c m m9 : ME} {a2 e1 f0 g0 p0 n0 o0 : Int} {F H : Int → Int} {Z : AR → Prop} (hI : Iv u e P2 Q2 c) (hJ : Iv ug eg P Q m) (hJ9 : Iv ug eg P Q m9) (hA : A = 13 ∨ A = 25) (ha2 : 0 ≤ a2 ∧ a2 ≤ 6) (hq0 : (f0 = 0)) (hq1 : (g0 = (-1))) (hq2 : (o0 = a2)) (hq3 : (n0 ≤ p0)) (hq4 : (p0 ≤ e1)) (hq5 : (e1 ≤ 150)) (hq6 : ((nx F e1 p0) ≥ e1) ∨ ((F (nx F e1 p0)) < 48) ∨ ((F (nx F e1 p0)) > 57)) (hq7 : ((nx F e1 p0) ≥ e1) ∨ ((F (nx F e1 p0)) < 40) ∨ ((F (nx F e1 p0)) > 40)) (hq8 : ((wd1_0 F (nx F e1 p0) (ln F e1 (nx F e1 p0))) = 8)) (hg_e1 : m 1 1 = e1) (hr_e1 : c 41 3 = e1) (hg_f0 : m 1 4 = f0) (hg_g0 : m 1 5 = g0) (hg_p0 : m 1 2 = p0) (hg_n0 : m (A + 7) 5 = n0) (hr_n0 : c 41 29 = n0) (hr_o0 : c 41 7 = o0) (hF : ∀ j : Int, m 2 j = F j) (hH : ∀ j : Int, c 43 j = H j) (hU : Ub F H) (hRt : Rt m c) (hr0 : Ce n0 (m (A + 9)) (c 50) (c 51)) (H13 : ∀ {d9 : Nat} {c m m9 : ME} {e1 f0 g0 p0 n0 o0 : Int} {Z : AR → Prop}, d ≤ d9 → a2 + 1 ≤ 6 → (Iv u e P2 Q2 c) → (Iv ug eg P Q m) → (Iv ug eg P Q m9) → (0 ≤ (a2 + 1) ∧ (a2 + 1) ≤ 6) → ((f0 = 0)) → ((g0 = (-1))) → ((o0 = (a2 + 1))) → ((n0 ≤ p0)) → ((p0 ≤ e1)) → ((e1 ≤ 150)) → (m 1 1 = e1) → (c 41 3 = e1) → (m 1 4 = f0) → (m 1 5 = g0) → (m 1 2 = p0) → (m (A + 7) 5 = n0) → (c 41 29 = n0) → (c 41 7 = o0) → (∀ j : Int, m 2 j = F j) → (∀ j : Int, c 43 j = H j) → (Ub F H) → (Rt m c) → (Ce n0 (m (A + 9)) (c 50) (c 51)) → (Wp sc (dh + 33) 13 0 [(0, .ref (A + 7)), (1, .ref 1), (2, vi (a2 + 1))] [] (Wd P Q P P m) 0 0 (fun q => q = (.inl (none), Wd P Q P P m9, 0, 0))) → (∀ (c2 : ME), Iv u e P2 Q2 c2 → (∀ (a : Nat) (j : Int), ¬ ((a = 41 ∧ j = 4) ∨ (a = 41 ∧ j = 5) ∨ (a = 41 ∧ j = 6) ∨ (a = 41 ∧ j = 7) ∨ (a = 41 ∧ j = 29) ∨ a = 50 ∨ a = 51) → c2 a j = c a j) → (Rt m9 c2) → ((m9 1 4 < 0) ∨ (m9 1 4 > 0) ∨ (m9 (A + 7) 5 = c2 41 29 ∧ c2 41 29 + p0 ≤ m9 1 2 + n0 ∧ m9 1 2 ≤ e1 ∧ m9 1 2 ≥ p0)) → ((c2 41 7 = (a2 + 1))) → (m9 1 4 = 0 → Ce (c2 41 29) (m9 (A + 9)) (c2 50) (c2 51)) → Z (.inl (none), Wd P2 Q2 P2 P2 c2, 0, 0)) → Wp sc (d9 + 32) 174 0 [(0, .ref 41)] [] (Wd P2 Q2 P2 P2 c) 0 0 Z) (hG : Wp sc (dh + 34) 14 0 [(0, .ref (A + 7)), (1, .ref 1), (2, vi a2)] [] (Wd P Q P P m) 0 0 (fun q => q = (.inl (none), Wd P Q P P m9, 0, 0))) (K : ∀ (c2 : ME), Iv u e P2 Q2 c2 → (∀ (a : Nat) (j : Int), ¬ ((a = 41 ∧ j = 4) ∨ (a = 41 ∧ j = 5) ∨ (a = 41 ∧ j = 6) ∨ (a = 41 ∧ j = 7) ∨ (a = 41 ∧ j = 29) ∨ a = 50 ∨ a = 51) → c2 a j = c a j) → (Rt m9 c2) → ((m9 1 4 < 0) ∨ (m9 1 4 > 0) ∨ (m9 (A + 7) 5 = c2 41 29 ∧ c2 41 29 + p0 ≤ m9 1 2 + n0 ∧ m9 1 2 ≤ e1 ∧ m9 1 2 ≥ p0)) → ((c2 41 7 = a2)) → (m9 1 4 = 0 → Ce (c2 41 29) (m9 (A + 9)) (c2 50) (c2 51)) → Z (.inl (none), Wd P2 Q2 P2 P2 c2, 0, 0)) : Wp sc (d + 34) 176 0 [(0, .ref 41)] [] (Wd P2 Q2 P2 P2 c) 0 0 Z := by
  have hP := iv_P hJ
  have hQ := iv_Q hJ
  have h_1 := ir_1_1 hJ
  have h_2 := ir_41_3 hI
  have h_3 := ir_1_4 hJ
  have h_4 := ir_1_5 hJ
  have h_5 := ir_1_2 hJ
  have h_6 := ir_p7_5 hJ hA
  have h_7 := ir_41_29 hI
  have h_8 := ir_41_7 hI
  refine gh hG ?_
  refine q_aload_n rfl rfl ?_
  have h_9 : -2147483648 ≤ (F p0) ∧ (F p0) ≤ 2147483647 := by rw [← hF p0]; exact ir_2 hJ p0
  have h_10 := nx_be (b := F) (e := e1) (a := p0) (by first | (clear ha2 hq0 hq1 hq2 hq3 hq5 hq8 h_1 h_2 h_3 h_4 h_5 h_6 h_7 h_8 h_9 hq6 hq7; omega) | omega)
  have h_11 : -2147483648 ≤ (F (nx F e1 p0)) ∧ (F (nx F e1 p0)) ≤ 2147483647 := by rw [← hF (nx F e1 p0)]; exact ir_2 hJ (nx F e1 p0)
  have h_12 := nx_n (b := F) (e := e1) (a := p0)
  refine v_cv rfl rfl rfl rfl (by decide) ⟨⟨rfl, rfl⟩, by decide, rfl⟩ (Nat.le_of_ble_eq_true rfl) (Nat.le_of_ble_eq_true rfl) (f_6 (e1 := e1) (a9 := p0) (B := F) (r8 := (nx F e1 p0)) hJ ((hg_e1)) ((hg_p0)) (fun j => hF j) rfl (fun c_13 hI_14 hF_15 h_16 hz_17 => by exfalso; omega) (fun c_18 hI_19 hF_20 h_21 hz_22 => ?_))
  refine bk_inl ?_
  refine v_if_eq_t (t := 19) rfl (by decide) (by decide) ?_
  refine q_aload_n rfl rfl ?_
  have kn_23 : Hid (c_18 1 1 = e1) := (hF_20 1 1 (fun h => absurd h.2 (ni rfl))).trans (hg_e1)
  refine v_cv rfl rfl rfl rfl (by decide) ⟨⟨rfl, rfl⟩, by decide, rfl⟩ (Nat.le_of_ble_eq_true rfl) (Nat.le_of_ble_eq_true rfl) (f_3 (e1 := e1) (a9 := (nx F e1 p0)) (B := F) (r8 := (nx F e1 p0)) hI_19 ((hid kn_23)) ((hz_22)) (fun j => (hF_20 2 j (fun h => absurd h.1 (nn rfl))).trans (hF j)) (nx_z (by omega)) (fun c_24 hI_25 hF_26 hz_27 => ?_))
  refine bk_inl ?_
  refine q_istore_n rfl (by decide) ?_
  refine q_aload_n rfl rfl ?_
  refine q_ldc_s rfl rfl rfl (by decide) ?_
  have kn_28 : Hid (c_24 1 1 = e1) := (hF_26 1 1 (fun h => absurd h.2 (ni rfl))).trans (hid kn_23)
  refine v_cv rfl rfl rfl rfl (by decide) ⟨⟨rfl, rfl⟩, by decide, rfl⟩ (Nat.le_of_ble_eq_true rfl) (Nat.le_of_ble_eq_true rfl) (f_4_0 (e1 := e1) (a9 := (nx F e1 p0)) (B := F) (r8 := (nx F e1 p0)) hI_25 ((hid kn_28)) ((hz_27)) (fun j => ((hF_26 2 j (fun h => absurd h.1 (nn rfl))).trans (hF_20 2 j (fun h => absurd h.1 (nn rfl)))).trans (hF j)) (nx_z (by omega)) (fun c_29 hI_30 hF_31 h_32 hz_33 => by exfalso; omega) (fun c_34 hI_35 hF_36 h_37 hz_38 => ?_))
  refine bk_inl ?_
  refine q_iconst rfl ?_
  refine v_ic_eq_t (t := 38) rfl (by decide) (by decide) ?_
  refine q_iconst rfl ?_
  refine q_istore rfl (by decide) ?_
  refine q_iload rfl rfl ?_
  refine v_if_eq_t (t := 50) rfl (by decide) (by decide) ?_
  refine q_aload_n rfl rfl ?_
  refine q_ldc_s rfl rfl rfl (by decide) ?_
  have kn_39 : Hid (c_34 1 1 = e1) := (hF_36 1 1 (fun h => absurd h.2 (ni rfl))).trans (hid kn_28)
  have kn_40 : Hid (c_18 1 4 = f0) := (hF_20 1 4 (fun h => absurd h.2 (ni rfl))).trans (hg_f0)
  have kn_41 : Hid (c_24 1 4 = f0) := (hF_26 1 4 (fun h => absurd h.2 (ni rfl))).trans (hid kn_40)
  have kn_42 : Hid (c_34 1 4 = f0) := (hF_36 1 4 (fun h => absurd h.2 (ni rfl))).trans (hid kn_41)
  have kn_43 : Hid (c_18 1 5 = g0) := (hF_20 1 5 (fun h => absurd h.2 (ni rfl))).trans (hg_g0)
  have kn_44 : Hid (c_24 1 5 = g0) := (hF_26 1 5 (fun h => absurd h.2 (ni rfl))).trans (hid kn_43)
  have kn_45 : Hid (c_34 1 5 = g0) := (hF_36 1 5 (fun h => absurd h.2 (ni rfl))).trans (hid kn_44)
  have h_46 := ln_be (b := F) (e := e1) (a := (nx F e1 p0)) (by first | (clear ha2 hq0 hq1 hq2 hq3 hq4 hq5 hq8 h_1 h_2 h_3 h_4 h_5 h_6 h_7 h_8 h_9 h_11 hq6 hq7 h_12 h_21 h_37; omega) | omega)
  refine v_cv rfl rfl rfl rfl (by decide) ⟨⟨rfl, rfl⟩, by decide, rfl⟩ (Nat.le_of_ble_eq_true rfl) (Nat.le_of_ble_eq_true rfl) (f_10_1 (e1 := e1) (a9 := (nx F e1 p0)) (f9 := f0) (p9 := g0) (B := F) (r8 := (nx F e1 p0)) (L8 := (ln F e1 (nx F e1 p0))) (W8 := (wd1_0 F (nx F e1 p0) (ln F e1 (nx F e1 p0)))) hI_35 ((hid kn_39)) ((hz_38)) ((hid kn_42)) ((hid kn_45)) (fun j => ((hF_36 2 j (fun h => absurd h.1 (nn rfl))).trans ((hF_26 2 j (fun h => absurd h.1 (nn rfl))).trans (hF_20 2 j (fun h => absurd h.1 (nn rfl))))).trans (hF j)) (nx_z (by omega)) rfl rfl (fun c_47 hI_48 hF_49 h_50 hz_51 hz_52 hz_53 => by exfalso; omega) (fun c_54 hI_55 hF_56 h_57 h_58 hz_59 hz_60 hz_61 => by exfalso; first | (clear ha2 hq0 hq1 hq2 hq3 hq4 hq5 h_1 h_2 h_3 h_4 h_5 h_6 h_7 h_8 h_9 h_10 h_11 h_46 hq6 hq7 h_12 h_21 h_37; omega) | omega) (fun c_62 hI_63 hF_64 h_65 h_66 hz_67 hz_68 hz_69 => ?_))
  refine bk_inl ?_
  refine q_istore rfl (by decide) ?_
  refine q_iload rfl rfl ?_
  refine q_iconst rfl ?_
  refine v_ic_eq_f (t := 82) rfl (by decide) ⟨by first | (clear ha2 hq0 hq1 hq2 hq3 hq4 hq5 h_1 h_2 h_3 h_4 h_5 h_6 h_7 h_8 h_9 h_10 h_11 h_46 h_65 h_66 hq6 hq7 h_12 h_21 h_37; omega) | omega, ⟨by first | (clear ha2 hq0 hq1 hq2 hq3 hq4 hq5 h_1 h_2 h_3 h_4 h_5 h_6 h_7 h_8 h_9 h_10 h_11 h_46 h_65 h_66 hq6 hq7 h_12 h_21 h_37; omega) | omega, by first | (clear ha2 hq0 hq1 hq2 hq3 hq4 hq5 h_1 h_2 h_3 h_4 h_5 h_6 h_7 h_8 h_9 h_10 h_11 h_46 h_65 h_66 hq6 hq7 h_12 h_21 h_37; omega) | omega⟩, by decide, by decide⟩ ?_
  refine q_iload rfl rfl ?_
  refine v_bip rfl (by decide) ?_
  refine v_ic_ge_t (t := 82) rfl (by decide) ⟨by decide, by first | (clear ha2 hq0 hq1 hq2 hq3 hq4 hq5 h_1 h_2 h_3 h_4 h_5 h_6 h_7 h_8 h_9 h_10 h_11 h_46 h_65 h_66 hq6 hq7 h_12 h_21 h_37; omega) | omega, by first | (clear ha2 hq0 hq1 hq2 hq3 hq4 hq5 h_1 h_2 h_3 h_4 h_5 h_6 h_7 h_8 h_9 h_10 h_11 h_46 h_65 h_66 hq6 hq7 h_12 h_21 h_37; omega) | omega⟩ ?_
  refine q_iload_n rfl rfl ?_
  refine v_bip rfl (by decide) ?_
  by_cases h_70 : a2 < 6
  · refine v_ic_lt_t (t := 94) rfl (by decide) ⟨(Int.le_trans (by decide) ha2.1), h_70, by decide⟩ ?_
    refine q_aload_n rfl rfl ?_
    refine v_cv rfl rfl rfl rfl (by decide) ⟨⟨rfl, rfl⟩, by decide, rfl⟩ (Nat.le_of_ble_eq_true rfl) (Nat.le_of_ble_eq_true rfl) ?_
    refine q_aload_n rfl rfl ?_
    refine v_gi (z := 4) (v := 0) rfl rfl rfl (by decide) rfl rfl (hz_68) ?_
    refine v_if_ne_f (t := 11) rfl (by decide) (by decide) ?_
    refine q_iconst rfl ?_
    refine q_goto (t := 12) rfl (by decide) ?_
    refine v_zret rfl rfl (by decide) ?_
    refine bk_inl ?_
    refine v_if_ne_t (t := 102) rfl (by decide) (by decide) ?_
    refine q_iload rfl rfl ?_
    refine v_if_eq_t (t := 124) rfl (by decide) (by decide) ?_
    refine q_aload_n rfl rfl ?_
    refine q_ldc_s rfl rfl rfl (by decide) ?_
    refine v_cv rfl rfl rfl rfl (by decide) ⟨⟨rfl, rfl⟩, by decide, rfl⟩ (Nat.le_of_ble_eq_true rfl) (Nat.le_of_ble_eq_true rfl) (fn_of (s_11 hI_63 (q := 3) (nt := 1) (by decide) (by decide) (by decide) (fun c_71 hI_72 hF_73 => ?_)))
    intro hG_74
    refine bk_inl ?_
    refine q_aload_n rfl rfl ?_
    refine q_aload_n rfl rfl ?_
    refine q_iload_n rfl rfl ?_
    refine q_iconst rfl ?_
    refine v_iadd (v := a2 + 1) rfl rfl ?_
    have h_75 := ir_1_4 hI_72
    by_cases h_76 : c_71 1 4 = 0
    · skip
      refine v_cv rfl rfl rfl (ck_p7 hA) (a68 hA rfl) ⟨⟨rfl, rfl⟩, by decide, rfl⟩ (Nat.le_of_ble_eq_true rfl) (Nat.le_of_ble_eq_true rfl) (fn_of (r_13 (a2 := a2 + 1) hI_72 hA (show 0 ≤ a2 + 1 ∧ a2 + 1 ≤ 6 from ⟨by first | exact rgp_l ha2.1 (by decide) | omega, by first | (clear ha2 hq0 hq1 hq2 hq3 hq4 hq5 hq8 h_1 h_2 h_3 h_4 h_5 h_6 h_7 h_8 h_9 h_10 h_11 h_46 h_65 h_66 h_75 h_76 hq6 hq7 h_12 h_21 h_37; omega) | omega⟩) (fun c_77 hI_78 hF_79 => ?_)))
      intro hG_80
      refine bk_inl ?_
      refine q_aload_n rfl rfl ?_
      refine q_ldc_s rfl rfl rfl (by decide) ?_
      have h_81 := ir_1_4 hI_78
      by_cases h_82 : c_77 1 4 = 0
      · skip
        refine v_cv rfl rfl rfl rfl (by decide) ⟨⟨rfl, rfl⟩, by decide, rfl⟩ (Nat.le_of_ble_eq_true rfl) (Nat.le_of_ble_eq_true rfl) (fn_of (s_11 hI_78 (q := 4) (nt := 1) (by decide) (by decide) (by decide) (fun c_83 hI_84 hF_85 => ?_)))
        intro hG_86
        refine bk_inl ?_
        refine q_aload_n rfl rfl ?_
        refine q_aload_n rfl rfl ?_
        refine q_iload_n rfl rfl ?_
        refine q_iconst rfl ?_
        refine v_iadd (v := a2 + 1) rfl rfl ?_
        have h_87 := ir_1_4 hI_84
        by_cases h_88 : c_83 1 4 = 0
        · skip
          refine v_cv rfl rfl rfl (ck_p7 hA) (a68 hA rfl) ⟨⟨rfl, rfl⟩, by decide, rfl⟩ (Nat.le_of_ble_eq_true rfl) (Nat.le_of_ble_eq_true rfl) (fn_of (r_13 (a2 := a2 + 1) hI_84 hA (show 0 ≤ a2 + 1 ∧ a2 + 1 ≤ 6 from ⟨by first | exact rgp_l ha2.1 (by decide) | omega, by first | (clear ha2 hq0 hq1 hq2 hq3 hq4 hq5 hq8 h_1 h_2 h_3 h_4 h_5 h_6 h_7 h_8 h_9 h_10 h_11 h_46 h_65 h_66 h_75 h_76 h_81 h_82 h_87 h_88 hq6 hq7 h_12 h_21 h_37; omega) | omega⟩) (fun c_89 hI_90 hF_91 => ?_)))
          intro hG_92
          refine bk_inl ?_
          refine q_aload_n rfl rfl ?_
          refine q_ldc_s rfl rfl rfl (by decide) ?_
          have h_93 := ir_1_4 hI_90
          by_cases h_94 : c_89 1 4 = 0
          · as_aux_lemma =>
              skip
              refine v_cv rfl rfl rfl rfl (by decide) ⟨⟨rfl, rfl⟩, by decide, rfl⟩ (Nat.le_of_ble_eq_true rfl) (Nat.le_of_ble_eq_true rfl) (fn_of (s_11 hI_90 (q := 5) (nt := 1) (by decide) (by decide) (by decide) (fun c_95 hI_96 hF_97 => ?_)))
              intro hG_98
              refine bk_inl ?_
              refine q_aload_n rfl rfl ?_
              refine v_sip rfl (by decide) ?_
              refine q_iload rfl rfl ?_
              refine v_iadd (v := (wd1_0 F (nx F e1 p0) (ln F e1 (nx F e1 p0))) + 2005) rfl (by first | (clear ha2 hq0 hq1 hq2 hq3 hq4 hq5 hq8 h_1 h_2 h_3 h_4 h_5 h_6 h_7 h_8 h_9 h_10 h_11 h_46 h_65 h_66 h_70 h_75 h_76 h_81 h_82 h_87 h_88 h_93 h_94 hq6 hq7 h_12 h_21 h_37; omega) | omega) ?_
              refine v_bip rfl (by decide) ?_
              refine v_isub (v := (wd1_0 F (nx F e1 p0) (ln F e1 (nx F e1 p0))) + 1997) rfl (by first | (clear ha2 hq0 hq1 hq2 hq3 hq4 hq5 hq8 h_1 h_2 h_3 h_4 h_5 h_6 h_7 h_8 h_9 h_10 h_11 h_46 h_65 h_66 h_70 h_75 h_76 h_81 h_82 h_87 h_88 h_93 h_94 hq6 hq7 h_12 h_21 h_37; omega) | omega) ?_
              refine v_cv rfl rfl rfl (ck_p7 hA) (a68 hA rfl) ⟨⟨rfl, rfl⟩, by decide, rfl⟩ (Nat.le_of_ble_eq_true rfl) (Nat.le_of_ble_eq_true rfl) ?_
              refine q_aload_n rfl rfl ?_
              have h_99 := ir_p7_5 hI_90 hA
              have kn_100 : Hid (c_95 (A + 7) 5 = c_89 (A + 7) 5) := hF_97 (A + 7) 5 (fun q => q.elim (fun h => absurd h.1 (np hA rfl rfl)) (fun q => q.elim (fun h => absurd h.1 (np hA rfl rfl)) (fun h => absurd h.1 (np hA rfl rfl))))
              refine v_gi (z := 5) (v := c_89 (A + 7) 5) rfl rfl (ck_p7 hA) (a68 hA rfl) rfl rfl (hid kn_100) ?_
              refine q_aload_n rfl rfl ?_
              refine v_gr (t := (A + 9)) rfl rfl (ck_p7 hA) (a68 hA rfl) rfl ?_
              refine v_al rfl (ck_p9 hA) (a68 hA rfl) (by decide) ?_
              by_cases h_101 : c_89 (A + 7) 5 ≥ 150
              · refine v_ic_ge_t (t := 32) rfl (by decide) ⟨by decide, h_101, by first | (clear ha2 hq0 hq1 hq2 hq3 hq4 hq5 hq8 h_1 h_2 h_3 h_4 h_5 h_6 h_7 h_8 h_9 h_10 h_11 h_46 h_65 h_66 h_70 h_75 h_76 h_81 h_82 h_87 h_88 h_93 h_94 hq6 hq7 h_12 h_21 h_37; omega) | omega⟩ ?_
                refine q_vret rfl rfl ?_
                refine bk_inl ?_
                refine q_vret rfl rfl ?_
                intro hE_102
                have hW : Wd P Q P P c_95 = Wd P Q P P m9 := (Prod.mk.inj (Prod.mk.inj hE_102).2).1
                have h_103 := ir_1_4 hI_96
                have h_104 := ir_1_4 hJ9
                have h_105 : m9 1 4 = c_95 1 4 := wd_fv (z := 4) 4 rfl hW rfl rfl rfl rfl (by decide) rfl ⟨(Int.le_trans (by decide) h_103.1), (Int.le_trans h_103.2 (by decide))⟩ ⟨(Int.le_trans (by decide) h_104.1), (Int.le_trans h_104.2 (by decide))⟩
                have h_106 := ir_1_2 hI_96
                have h_107 := ir_1_2 hJ9
                have h_108 : m9 1 2 = c_95 1 2 := wd_fv (z := 2) 2 rfl hW rfl rfl rfl rfl (by decide) rfl ⟨(Int.le_trans (by decide) h_106.1), (Int.le_trans h_106.2 (by decide))⟩ ⟨(Int.le_trans (by decide) h_107.1), (Int.le_trans h_107.2 (by decide))⟩
                have h_109 := ir_1_5 hI_96
                have h_110 := ir_1_5 hJ9
                have h_111 : m9 1 5 = c_95 1 5 := wd_fv (z := 5) 5 rfl hW rfl rfl rfl rfl (by decide) rfl ⟨(Int.le_trans (by decide) h_109.1), (Int.le_trans h_109.2 (by decide))⟩ ⟨(Int.le_trans (by decide) h_110.1), (Int.le_trans h_110.2 (by decide))⟩
                have h_112 := ir_p7_5 hJ9 hA
                have h_113 : m9 (A + 7) 5 = c_89 (A + 7) 5 := wd_fv (z := 5) 5 rfl hW (ck_p7 hA) (ck_p7 hA) rfl rfl (by omega) (hid kn_100) ⟨by first | (clear ha2 hq0 hq1 hq2 hq3 hq4 hq5 hq8 h_1 h_2 h_3 h_4 h_5 h_6 h_7 h_8 h_9 h_10 h_11 h_46 h_65 h_66 h_70 h_75 h_76 h_81 h_82 h_87 h_88 h_93 h_94 h_99 h_103 h_104 h_105 h_106 h_107 h_108 h_109 h_110 h_111 h_112 hq6 hq7 h_12 h_21 h_37; omega) | omega, by first | (clear ha2 hq0 hq1 hq2 hq3 hq4 hq5 hq8 h_1 h_2 h_3 h_4 h_5 h_6 h_7 h_8 h_9 h_10 h_11 h_46 h_65 h_66 h_70 h_75 h_76 h_81 h_82 h_87 h_88 h_93 h_94 h_101 h_103 h_104 h_105 h_106 h_107 h_108 h_109 h_110 h_111 h_112 hq6 hq7 h_12 h_21 h_37; omega) | omega⟩ ⟨(Int.le_trans (by decide) h_112.1), (Int.le_trans h_112.2 (by decide))⟩
                refine q_aload_n rfl rfl ?_
                refine v_cv rfl rfl rfl rfl (by decide) ⟨⟨rfl, rfl⟩, by decide, rfl⟩ (Nat.le_of_ble_eq_true rfl) (Nat.le_of_ble_eq_true rfl) ?_
                refine q_aload_n rfl rfl ?_
                have h_114 := ir_41_5 hI
                have h_115 := ir_41_4 hI
                have h_116 := ir_41_6 hI
                have h_117 := rt_ok hRt (by omega)
                have hro_hRt := rt_ok hRt (by omega)
                refine v_gi (z := 5) (v := (-1)) rfl rfl rfl (by decide) rfl rfl hro_hRt.2.1 ?_
                refine q_iconst rfl ?_
                refine v_ic_ne_f (t := 12) rfl (by decide) (by decide) ?_
                refine q_iconst rfl ?_
                refine q_goto (t := 13) rfl (by decide) ?_
                refine v_zret rfl rfl (by decide) ?_
                refine bk_inl ?_
                refine v_if_ne_t (t := 8) rfl (by decide) (by decide) ?_
                refine q_aload_n rfl rfl ?_
                have h_118 : -2147483648 ≤ (H (nx F e1 p0)) ∧ (H (nx F e1 p0)) ≤ 2147483647 := by rw [← hH (nx F e1 p0)]; exact ir_43 hI (nx F e1 p0)
                have h_119 := hU (nx F e1 p0) (by omega) (by omega)
                have h_120 := hb_or (b := H) (e := e1) (r := (nx F e1 p0))
                have h_121 := hb_bd (b := H) (e := e1) (r := (nx F e1 p0)) (lo := -2147483648) (hi := 2147483647) h_118 (by decide)
                refine v_cv rfl rfl rfl rfl (by decide) ⟨⟨rfl, rfl⟩, by decide, rfl⟩ (Nat.le_of_ble_eq_true rfl) (Nat.le_of_ble_eq_true rfl) (f_154 (e1 := e1) (a9 := p0) (B := H) (r8 := (nx F e1 p0)) (r := (hb H e1 (nx F e1 p0))) hI ((hr_e1)) (((hro_hRt.2.2.1).trans ((hg_p0)))) (fun j => hH j) ((nx_tr hU (by first | (clear ha2 hq0 hq1 hq2 hq3 hq4 hq5 hq8 h_1 h_2 h_3 h_4 h_6 h_7 h_8 h_9 h_10 h_11 h_46 h_65 h_66 h_70 h_75 h_76 h_81 h_82 h_87 h_88 h_93 h_94 h_99 h_101 h_103 h_104 h_105 h_106 h_107 h_108 h_109 h_110 h_111 h_112 h_113 h_114 h_115 h_116 h_117 hq6 hq7 h_12 h_21 h_37; omega) | omega) (by first | (clear ha2 hq0 hq1 hq2 hq3 hq4 hq8 h_1 h_2 h_3 h_4 h_5 h_6 h_7 h_8 h_9 h_10 h_11 h_46 h_65 h_66 h_70 h_75 h_76 h_81 h_82 h_87 h_88 h_93 h_94 h_99 h_101 h_103 h_104 h_105 h_106 h_107 h_108 h_109 h_110 h_111 h_112 h_113 h_114 h_115 h_116 h_117 hq6 hq7 h_12 h_21 h_37; omega) | omega)).trans (rfl)) rfl (fun c_122 hI_123 hF_124 h_125 => ?_))
                refine bk_inl ?_
                refine v_bip rfl (by decide) ?_
                refine v_ic_ne_t (t := 45) rfl (by decide) ⟨by first | (clear ha2 hq0 hq1 hq2 hq3 hq8 h_3 h_4 h_5 h_6 h_7 h_8 h_9 h_11 h_65 h_66 h_70 h_75 h_76 h_81 h_82 h_87 h_88 h_93 h_94 h_99 h_101 h_103 h_104 h_105 h_106 h_107 h_108 h_109 h_110 h_111 h_112 h_113 h_114 h_115 h_116 h_117; omega) | omega, ⟨h_121.1, h_121.2⟩, by decide, by decide⟩ ?_
                refine q_aload_n rfl rfl ?_
                have kn_126 : Hid (c_122 41 3 = e1) := (hF_124 41 3 (fun h => absurd h.2 (ni rfl))).trans (hr_e1)
                refine v_cv rfl rfl rfl rfl (by decide) ⟨⟨rfl, rfl⟩, by decide, rfl⟩ (Nat.le_of_ble_eq_true rfl) (Nat.le_of_ble_eq_true rfl) (f_154 (e1 := e1) (a9 := (nx F e1 p0)) (B := H) (r8 := (nx F e1 p0)) (r := (hb H e1 (nx F e1 p0))) hI_123 ((hid kn_126)) ((h_125)) (fun j => (hF_124 43 j (fun h => absurd h.1 (nn rfl))).trans (hH j)) ((nx_tr hU (by first | (clear ha2 hq0 hq1 hq2 hq3 hq4 hq5 hq8 h_1 h_2 h_3 h_4 h_6 h_7 h_8 h_9 h_11 h_46 h_65 h_66 h_70 h_75 h_76 h_81 h_82 h_87 h_88 h_93 h_94 h_99 h_101 h_103 h_104 h_105 h_106 h_107 h_108 h_109 h_110 h_111 h_112 h_113 h_114 h_115 h_116 h_117 h_118 h_119 h_121 hq6 hq7 h_12 h_21 h_37 h_120; omega) | omega) (by first | (clear ha2 hq0 hq1 hq2 hq3 hq4 hq8 h_1 h_2 h_3 h_4 h_5 h_6 h_7 h_8 h_9 h_10 h_11 h_46 h_65 h_66 h_70 h_75 h_76 h_81 h_82 h_87 h_88 h_93 h_94 h_99 h_101 h_103 h_104 h_105 h_106 h_107 h_108 h_109 h_110 h_111 h_112 h_113 h_114 h_115 h_116 h_117 h_118 h_119 h_121 hq6 hq7 h_12 h_21 h_37 h_120; omega) | omega)).trans ((nx_z (by omega)))) rfl (fun c_127 hI_128 hF_129 h_130 => ?_))
                refine bk_inl ?_
                refine q_call rfl rfl rfl rfl (f_156 (a0 := (hb H e1 (nx F e1 p0))) hI_128 (show (-2147483648) ≤ (hb H e1 (nx F e1 p0)) ∧ (hb H e1 (nx F e1 p0)) ≤ 2147483647 from h_121) (fun y_131 hy_131 h_132 => ?_))
                refine bk_inl ?_
                refine v_if_eq_t (t := 71) rfl (by decide) (by first | (clear ha2 hq0 hq1 hq2 hq3 hq8 h_3 h_4 h_5 h_6 h_7 h_8 h_9 h_11 h_65 h_66 h_70 h_75 h_76 h_81 h_82 h_87 h_88 h_93 h_94 h_99 h_101 h_103 h_104 h_105 h_106 h_107 h_108 h_109 h_110 h_111 h_112 h_113 h_114 h_115 h_116 h_117; omega) | omega) ?_
                refine q_aload_n rfl rfl ?_
                have kn_133 : Hid (c_127 41 3 = e1) := (hF_129 41 3 (fun h => absurd h.2 (ni rfl))).trans (hid kn_126)
                have h_134 := wv_bd (b := F) (r := (nx F e1 p0)) (l := (ln F e1 (nx F e1 p0))) (fun j h1 h2 => ⟨(ln_in (e := e1) (a := (nx F e1 p0)) h1 h2).1, (ln_in (e := e1) (a := (nx F e1 p0)) h1 h2).2.1⟩)
                have h_135 := wr1_8 (b := F) (r := (nx F e1 p0)) (l := (ln F e1 (nx F e1 p0))) (by omega) (fun j h1 h2 => ⟨(ln_in (e := e1) (a := (nx F e1 p0)) h1 h2).1, (ln_in (e := e1) (a := (nx F e1 p0)) h1 h2).2.1⟩) (by omega)
                have h_136 : (wv F (nx F e1 p0) (ln F e1 (nx F e1 p0))) = 12748404 → (ln F e1 (nx F e1 p0)) - (nx F e1 p0) = 5 := wl_least (by omega) (fun j h1 h2 => ⟨(ln_in (e := e1) (a := (nx F e1 p0)) h1 h2).1, (ln_in (e := e1) (a := (nx F e1 p0)) h1 h2).2.1⟩)
                refine v_cv rfl rfl rfl rfl (by decide) ⟨⟨rfl, rfl⟩, by decide, rfl⟩ (Nat.le_of_ble_eq_true rfl) (Nat.le_of_ble_eq_true rfl) (f_157 (e1 := e1) (a9 := (nx F e1 p0)) (B := H) (r8 := (nx F e1 p0)) (L8 := (ln F e1 (nx F e1 p0))) (W8 := (wv F (nx F e1 p0) (ln F e1 (nx F e1 p0)))) hI_128 ((hid kn_133)) ((h_130)) (fun j => ((hF_129 43 j (fun h => absurd h.1 (nn rfl))).trans (hF_124 43 j (fun h => absurd h.1 (nn rfl)))).trans (hH j)) ((nx_tr hU (by first | (clear ha2 hq0 hq1 hq2 hq3 hq4 hq5 hq8 h_1 h_2 h_3 h_4 h_6 h_7 h_8 h_9 h_11 h_46 h_65 h_66 h_70 h_75 h_76 h_81 h_82 h_87 h_88 h_93 h_94 h_99 h_101 h_103 h_104 h_105 h_106 h_107 h_108 h_109 h_110 h_111 h_112 h_113 h_114 h_115 h_116 h_117 h_118 h_119 h_121 hq6 hq7 h_12 h_21 h_37 h_120 h_132; omega) | omega) (by first | (clear ha2 hq0 hq1 hq2 hq3 hq4 hq8 h_1 h_2 h_3 h_4 h_5 h_6 h_7 h_8 h_9 h_10 h_11 h_46 h_65 h_66 h_70 h_75 h_76 h_81 h_82 h_87 h_88 h_93 h_94 h_99 h_101 h_103 h_104 h_105 h_106 h_107 h_108 h_109 h_110 h_111 h_112 h_113 h_114 h_115 h_116 h_117 h_118 h_119 h_121 hq6 hq7 h_12 h_21 h_37 h_120 h_132; omega) | omega)).trans ((nx_z (by omega)))) ((ln_tr hU (by first | (clear ha2 hq0 hq1 hq2 hq3 hq4 hq5 hq8 h_1 h_2 h_3 h_4 h_6 h_7 h_8 h_9 h_11 h_46 h_65 h_66 h_70 h_75 h_76 h_81 h_82 h_87 h_88 h_93 h_94 h_99 h_101 h_103 h_104 h_105 h_106 h_107 h_108 h_109 h_110 h_111 h_112 h_113 h_114 h_115 h_116 h_117 h_118 h_119 h_121 hq6 hq7 h_12 h_21 h_37 h_120 h_132; omega) | omega) (by first | (clear ha2 hq0 hq1 hq2 hq3 hq4 hq8 h_1 h_2 h_3 h_4 h_5 h_6 h_7 h_8 h_9 h_10 h_11 h_46 h_65 h_66 h_70 h_75 h_76 h_81 h_82 h_87 h_88 h_93 h_94 h_99 h_101 h_103 h_104 h_105 h_106 h_107 h_108 h_109 h_110 h_111 h_112 h_113 h_114 h_115 h_116 h_117 h_118 h_119 h_121 hq6 hq7 h_12 h_21 h_37 h_120 h_132; omega) | omega)).trans (rfl)) ((wv_tr hU (by first | (clear ha2 hq0 hq1 hq2 hq3 hq4 hq5 hq8 h_1 h_2 h_3 h_4 h_6 h_7 h_8 h_9 h_11 h_46 h_65 h_66 h_70 h_75 h_76 h_81 h_82 h_87 h_88 h_93 h_94 h_99 h_101 h_103 h_104 h_105 h_106 h_107 h_108 h_109 h_110 h_111 h_112 h_113 h_114 h_115 h_116 h_117 h_118 h_119 h_121 h_134 h_136 hq6 hq7 h_12 h_21 h_37 h_120 h_132; omega) | omega) (by first | (clear ha2 hq0 hq1 hq2 hq3 hq4 hq8 h_1 h_2 h_3 h_4 h_5 h_6 h_7 h_8 h_9 h_10 h_11 h_65 h_66 h_70 h_75 h_76 h_81 h_82 h_87 h_88 h_93 h_94 h_99 h_101 h_103 h_104 h_105 h_106 h_107 h_108 h_109 h_110 h_111 h_112 h_113 h_114 h_115 h_116 h_117 h_118 h_119 h_121 h_134 h_136 hq6 hq7 h_12 h_21 h_37 h_120 h_132; omega) | omega) (fun j h1 h2 => ⟨(ln_in (e := e1) (a := (nx F e1 p0)) h1 h2).1, (ln_in (e := e1) (a := (nx F e1 p0)) h1 h2).2.1⟩)).trans (rfl)) (fun c_137 hI_138 hF_139 hz_140 => ?_))
                refine bk_inl ?_
                refine q_ldc_w_s rfl rfl rfl (by decide) ?_
                refine q_call rfl rfl rfl rfl (s_158_20 ?_)
                refine bk_inl ?_
                refine v_ic_ne_f (t := 94) rfl (by decide) (by first | (clear ha2 hq0 hq1 hq2 hq3 hq4 hq5 hq8 h_1 h_2 h_3 h_4 h_5 h_6 h_7 h_8 h_9 h_10 h_11 h_46 h_65 h_66 h_70 h_75 h_76 h_81 h_82 h_87 h_88 h_93 h_94 h_99 h_101 h_103 h_104 h_105 h_106 h_107 h_108 h_109 h_110 h_111 h_112 h_113 h_114 h_115 h_116 h_117 h_118 h_119 h_121 h_134 hq6 hq7 h_12 h_21 h_37 h_120 h_132; omega) | omega) ?_
                refine q_aload_n rfl rfl ?_
                refine q_iconst rfl ?_
                refine v_bip rfl (by decide) ?_
                refine v_cv rfl rfl rfl rfl (by decide) ⟨⟨rfl, rfl⟩, by decide, rfl⟩ (Nat.le_of_ble_eq_true rfl) (Nat.le_of_ble_eq_true rfl) ?_
                refine q_aload_n rfl rfl ?_
                refine q_iload_n rfl rfl ?_
                refine v_cv rfl rfl rfl rfl (by decide) ⟨⟨rfl, rfl⟩, by decide, rfl⟩ (Nat.le_of_ble_eq_true rfl) (Nat.le_of_ble_eq_true rfl) ?_
                refine q_aload_n rfl rfl ?_
                refine v_cv rfl rfl rfl rfl (by decide) ⟨⟨rfl, rfl⟩, by decide, rfl⟩ (Nat.le_of_ble_eq_true rfl) (Nat.le_of_ble_eq_true rfl) ?_
                refine q_aload_n rfl rfl ?_
                have kn_141 : Hid (c_122 41 5 = (-1)) := (hF_124 41 5 (fun h => absurd h.2 (ni rfl))).trans hro_hRt.2.1
                have kn_142 : Hid (c_127 41 5 = (-1)) := (hF_129 41 5 (fun h => absurd h.2 (ni rfl))).trans (hid kn_141)
                have kn_143 : Hid (c_137 41 5 = (-1)) := (hF_139 41 5 (fun h => absurd h.2 (ni rfl))).trans (hid kn_142)
                refine v_gi (z := 5) (v := (-1)) rfl rfl rfl (by decide) rfl rfl (hid kn_143) ?_
                refine q_iconst rfl ?_
                refine v_ic_ne_f (t := 12) rfl (by decide) (by decide) ?_
                refine q_iconst rfl ?_
                refine q_goto (t := 13) rfl (by decide) ?_
                refine v_zret rfl rfl (by decide) ?_
                refine bk_inl ?_
                refine v_if_eq_f (t := 25) rfl (by decide) (by decide) ?_
                refine q_aload_n rfl rfl ?_
                have kn_144 : Hid (c_122 41 7 = o0) := (hF_124 41 7 (fun h => absurd h.2 (ni rfl))).trans (hr_o0)
                have kn_145 : Hid (c_127 41 7 = o0) := (hF_129 41 7 (fun h => absurd h.2 (ni rfl))).trans (hid kn_144)
                have kn_146 : Hid (c_137 41 7 = o0) := (hF_139 41 7 (fun h => absurd h.2 (ni rfl))).trans (hid kn_145)
                refine v_gi (z := 7) (v := o0) rfl rfl rfl (by decide) rfl rfl (hid kn_146) ?_
                refine v_bip rfl (by decide) ?_
                refine v_ic_ne_t (t := 25) rfl (by decide) ⟨by first | (clear ha2 hq0 hq1 hq3 hq4 hq5 hq8 h_1 h_2 h_3 h_4 h_5 h_6 h_7 h_8 h_9 h_10 h_11 h_46 h_65 h_66 h_75 h_76 h_81 h_82 h_87 h_88 h_93 h_94 h_99 h_101 h_103 h_104 h_105 h_106 h_107 h_108 h_109 h_110 h_111 h_112 h_113 h_114 h_115 h_116 h_117 h_118 h_119 h_121 h_134 h_136 hq6 hq7 h_12 h_21 h_37 h_120 h_132; omega) | omega, ⟨(Int.le_trans (by decide) (rg_eq hr_o0 h_8).1), (Int.le_trans (rg_eq hr_o0 h_8).2 (by decide))⟩, by decide, by decide⟩ ?_
                refine q_aload_n rfl rfl ?_
                refine v_cv rfl rfl rfl rfl (by decide) ⟨⟨rfl, rfl⟩, by decide, rfl⟩ (Nat.le_of_ble_eq_true rfl) (Nat.le_of_ble_eq_true rfl) ?_
                refine q_aload_n rfl rfl ?_
                refine v_gi (z := 5) (v := (-1)) rfl rfl rfl (by decide) rfl rfl (hid kn_143) ?_
                refine q_iconst rfl ?_
                refine v_ic_ne_f (t := 12) rfl (by decide) (by decide) ?_
                refine q_iconst rfl ?_
                refine q_goto (t := 13) rfl (by decide) ?_
                refine v_zret rfl rfl (by decide) ?_
                refine bk_inl ?_
                refine v_if_eq_f (t := 42) rfl (by decide) (by decide) ?_
                refine q_aload_n rfl rfl ?_
                refine q_dup rfl rfl ?_
                refine v_gi (z := 4) (v := (nx F e1 p0)) rfl rfl rfl (by decide) rfl rfl (hz_140) ?_
                refine q_iload_n rfl rfl ?_
                refine v_iadd (v := (nx F e1 p0) + 5) rfl rfl ?_
                refine v_pi (z := 4) rfl rfl rfl (by decide) rfl rfl rfl (by decide) ?_
                refine q_aload_n rfl rfl ?_
                refine q_dup rfl rfl ?_
                refine v_gi (z := 7) (v := o0) rfl rfl rfl (by decide) rfl rfl ((up_n (by decide)).trans (hid kn_146)) ?_
                refine q_iconst rfl ?_
                refine v_iadd (v := o0 + 1) rfl rfl ?_
                refine v_pi (z := 7) rfl rfl rfl (by decide) rfl rfl rfl (by decide) ?_
                refine q_vret rfl rfl ?_
                refine bk_inl ?_
                refine q_aload_n rfl rfl ?_
                refine v_bip rfl (by decide) ?_
                have hI_147 := iw_41_4 (v := (nx F e1 p0) + 5) hI_138 ⟨by first | exact rgp_l (rg_be h_10 ((rg_eq hg_p0 h_5).1) ((rg_eq hg_e1 h_1).2)).1 (by decide) | omega, by first | exact rgp_h (rg_be h_10 ((rg_eq hg_p0 h_5).1) ((rg_eq hg_e1 h_1).2)).2 (by decide) | omega⟩
                have hI_148 := iw_41_7 (v := o0 + 1) hI_147 ⟨by first | exact rgp_l (rg_eq hr_o0 h_8).1 (by decide) | omega, by first | (clear ha2 hq0 hq1 hq3 hq4 hq5 hq8 h_1 h_2 h_3 h_4 h_5 h_6 h_7 h_8 h_9 h_10 h_11 h_46 h_65 h_66 h_75 h_76 h_81 h_82 h_87 h_88 h_93 h_94 h_99 h_101 h_103 h_104 h_105 h_106 h_107 h_108 h_109 h_110 h_111 h_112 h_113 h_114 h_115 h_116 h_117 h_118 h_119 h_121 h_134 h_136 hq6 hq7 h_12 h_21 h_37 h_120 h_132; omega) | omega⟩
                have kn_149 : Hid (c_62 1 1 = e1) := (hF_64 1 1 (fun q => q.elim (fun h => absurd h.2 (ni rfl)) (fun q => q.elim (fun h => absurd h.2 (ni rfl)) (fun h => absurd h.2 (ni rfl))))).trans (hid kn_39)
                have kn_150 : Hid (c_137 41 3 = e1) := (hF_139 41 3 (fun h => absurd h.2 (ni rfl))).trans (hid kn_133)
                have h_151 : c_62 1 4 = 0 := (hz_68)
                have h_152 : c_62 1 2 = (ln F e1 (nx F e1 p0)) := (hz_67)
                have h_153 : c_62 1 5 = g0 := (hz_69)
                have h_154 : (up (up c_137 41 4 ((nx F e1 p0) + 5)) 41 7 (o0 + 1)) 41 5 = (-1) := ((up_n (by decide)).trans ((up_n (by decide)).trans (hid kn_143)))
                have h_155 : (up (up c_137 41 4 ((nx F e1 p0) + 5)) 41 7 (o0 + 1)) 41 4 = (nx F e1 p0) + 5 := ((up_n (by decide)).trans (up_e rfl))
                have kn_156 : Hid (c_122 41 6 = c 41 6) := hF_124 41 6 (fun h => absurd h.2 (ni rfl))
                have kn_157 : Hid (c_127 41 6 = c 41 6) := (hF_129 41 6 (fun h => absurd h.2 (ni rfl))).trans (hid kn_156)
                have kn_158 : Hid (c_137 41 6 = c 41 6) := (hF_139 41 6 (fun h => absurd h.2 (ni rfl))).trans (hid kn_157)
                have h_159 : (up (up c_137 41 4 ((nx F e1 p0) + 5)) 41 7 (o0 + 1)) 41 6 = c 41 6 := ((up_n (by decide)).trans ((up_n (by decide)).trans (hid kn_158)))
                refine v_cv rfl rfl rfl rfl (by decide) ⟨⟨rfl, rfl⟩, by decide, rfl⟩ (Nat.le_of_ble_eq_true rfl) (Nat.le_of_ble_eq_true rfl) (L_11_3 (m := c_62) (e1 := e1) (a9 := (ln F e1 (nx F e1 p0))) (f0 := 0) (F := F) (H := H) hI_148 hI_63 hI_72 ((hid kn_149)) (((up_n (by decide)).trans ((up_n (by decide)).trans (hid kn_150)))) ((hz_67)) ((hz_68)) (fun j => ((hF_64 2 j (fun q => q.elim (fun h => absurd h.1 (nn rfl)) (fun q => q.elim (fun h => absurd h.1 (nn rfl)) (fun h => absurd h.1 (nn rfl))))).trans ((hF_36 2 j (fun h => absurd h.1 (nn rfl))).trans ((hF_26 2 j (fun h => absurd h.1 (nn rfl))).trans (hF_20 2 j (fun h => absurd h.1 (nn rfl)))))).trans (hF j)) (fun j => ((up_c (nn rfl)).trans ((up_c (nn rfl)).trans ((hF_139 43 j (fun h => absurd h.1 (nn rfl))).trans ((hF_129 43 j (fun h => absurd h.1 (nn rfl))).trans (hF_124 43 j (fun h => absurd h.1 (nn rfl))))))).trans (hH j)) hU (rt_i1 ⟨by first | (clear ha2 hq0 hq1 hq2 hq3 hq4 hq5 hq8 h_1 h_2 h_3 h_4 h_5 h_6 h_7 h_8 h_9 h_10 h_11 h_46 h_65 h_66 h_70 h_75 h_76 h_81 h_82 h_87 h_88 h_93 h_94 h_99 h_101 h_103 h_104 h_105 h_106 h_107 h_108 h_109 h_110 h_111 h_112 h_113 h_114 h_115 h_116 h_117 h_118 h_119 h_121 h_134 h_136 hq6 hq7 h_12 h_21 h_37 h_120 h_132; omega) | omega, by first | (clear ha2 hq0 hq1 hq2 hq3 hq4 hq5 hq8 h_1 h_2 h_3 h_4 h_5 h_6 h_7 h_8 h_9 h_10 h_11 h_46 h_65 h_66 h_70 h_75 h_76 h_81 h_82 h_87 h_88 h_93 h_94 h_99 h_101 h_103 h_104 h_105 h_106 h_107 h_108 h_109 h_110 h_111 h_112 h_113 h_114 h_115 h_116 h_117 h_118 h_119 h_121 h_134 h_136 hq6 hq7 h_12 h_21 h_37 h_120 h_132; omega) | omega, by first | (clear ha2 hq0 hq1 hq2 hq3 hq4 hq5 hq8 h_1 h_2 h_3 h_4 h_5 h_6 h_7 h_8 h_9 h_10 h_11 h_46 h_65 h_66 h_70 h_75 h_76 h_81 h_82 h_87 h_88 h_93 h_94 h_99 h_101 h_103 h_104 h_105 h_106 h_107 h_108 h_109 h_110 h_111 h_112 h_113 h_114 h_115 h_116 h_117 h_118 h_119 h_121 h_134 hq6 hq7 h_12 h_21 h_37 h_120 h_132; omega) | omega, by first | (clear ha2 hq0 hq2 hq3 hq4 hq5 hq8 h_1 h_2 h_3 h_4 h_5 h_6 h_7 h_8 h_9 h_10 h_11 h_46 h_65 h_66 h_70 h_75 h_76 h_81 h_82 h_87 h_88 h_93 h_94 h_99 h_101 h_103 h_104 h_105 h_106 h_107 h_108 h_109 h_110 h_111 h_112 h_113 h_114 h_115 h_116 h_117 h_118 h_119 h_121 h_134 h_136 hq6 hq7 h_12 h_21 h_37 h_120 h_132; omega) | omega⟩) hG_74 (fun c_160 hI_161 hF_162 hR_164 h_165 h_166 => ?_))
                refine bk_inl ?_
                have h_167 := ir_1_2 hI_72
                refine q_aload_n rfl rfl ?_
                have h_168 := ir_41_5 hI_161
                have h_169 := ir_1_5 hI_72
                have h_170 := ir_41_4 hI_161
                have h_171 := ir_41_6 hI_161
                have h_172 := rt_ok hR_164 (by omega)
                have hro_hR_164 := rt_ok hR_164 (by omega)
                have kn_173 : Hid (c_71 1 1 = e1) := (hF_73 1 1 (fun q => q.elim (fun h => absurd h.2 (ni rfl)) (fun q => q.elim (fun h => absurd h.2 (ni rfl)) (fun h => absurd h.2 (ni rfl))))).trans (hid kn_149)
                have kn_174 : Hid (c_160 41 3 = e1) := (hF_162 41 3 (fun q => q.elim (fun h => absurd h.2 (ni rfl)) (fun q => q.elim (fun h => absurd h.2 (ni rfl)) (fun h => absurd h.2 (ni rfl))))).trans ((up_n (by decide)).trans ((up_n (by decide)).trans (hid kn_150)))
                have kn_175 : Hid (c_18 (A + 7) 5 = n0) := (hF_20 (A + 7) 5 (fun h => absurd h.1 (np hA rfl rfl))).trans (hg_n0)
                have kn_176 : Hid (c_24 (A + 7) 5 = n0) := (hF_26 (A + 7) 5 (fun h => absurd h.1 (np hA rfl rfl))).trans (hid kn_175)
                have kn_177 : Hid (c_34 (A + 7) 5 = n0) := (hF_36 (A + 7) 5 (fun h => absurd h.1 (np hA rfl rfl))).trans (hid kn_176)
                have kn_178 : Hid (c_62 (A + 7) 5 = n0) := (hF_64 (A + 7) 5 (fun q => q.elim (fun h => absurd h.1 (np hA rfl rfl)) (fun q => q.elim (fun h => absurd h.1 (np hA rfl rfl)) (fun h => absurd h.1 (np hA rfl rfl))))).trans (hid kn_177)
                have kn_179 : Hid (c_71 (A + 7) 5 = n0) := (hF_73 (A + 7) 5 (fun q => q.elim (fun h => absurd h.1 (np hA rfl rfl)) (fun q => q.elim (fun h => absurd h.1 (np hA rfl rfl)) (fun h => absurd h.1 (np hA rfl rfl))))).trans (hid kn_178)
                have kn_180 : Hid (c_122 41 29 = n0) := (hF_124 41 29 (fun h => absurd h.2 (ni rfl))).trans (hr_n0)
                have kn_181 : Hid (c_127 41 29 = n0) := (hF_129 41 29 (fun h => absurd h.2 (ni rfl))).trans (hid kn_180)
                have kn_182 : Hid (c_137 41 29 = n0) := (hF_139 41 29 (fun h => absurd h.2 (ni rfl))).trans (hid kn_181)
                have kn_183 : Hid (c_160 41 29 = n0) := (hF_162 41 29 (fun q => q.elim (fun h => absurd h.2 (ni rfl)) (fun q => q.elim (fun h => absurd h.2 (ni rfl)) (fun h => absurd h.2 (ni rfl))))).trans ((up_n (by decide)).trans ((up_n (by decide)).trans (hid kn_182)))
                have kn_184 : Hid (c_160 41 7 = o0 + 1) := (hF_162 41 7 (fun q => q.elim (fun h => absurd h.2 (ni rfl)) (fun q => q.elim (fun h => absurd h.2 (ni rfl)) (fun h => absurd h.2 (ni rfl))))).trans (up_e rfl)
                have hA_185 : Ce n0 (c_71 (A + 9)) (c_160 50) (c_160 51) := ce_fr hr0 (fun j => (hF_73 (A + 9) j (fun q => q.elim (fun h => absurd h.1 (np hA rfl rfl)) (fun q => q.elim (fun h => absurd h.1 (np hA rfl rfl)) (fun h => absurd h.1 (np hA rfl rfl))))).trans ((hF_64 (A + 9) j (fun q => q.elim (fun h => absurd h.1 (np hA rfl rfl)) (fun q => q.elim (fun h => absurd h.1 (np hA rfl rfl)) (fun h => absurd h.1 (np hA rfl rfl))))).trans ((hF_36 (A + 9) j (fun h => absurd h.1 (np hA rfl rfl))).trans ((hF_26 (A + 9) j (fun h => absurd h.1 (np hA rfl rfl))).trans (hF_20 (A + 9) j (fun h => absurd h.1 (np hA rfl rfl))))))) (fun j => (hF_162 50 j (fun q => q.elim (fun h => absurd h.1 (nn rfl)) (fun q => q.elim (fun h => absurd h.1 (nn rfl)) (fun h => absurd h.1 (nn rfl))))).trans ((up_c (nn rfl)).trans ((up_c (nn rfl)).trans ((hF_139 50 j (fun h => absurd h.1 (nn rfl))).trans ((hF_129 50 j (fun h => absurd h.1 (nn rfl))).trans (hF_124 50 j (fun h => absurd h.1 (nn rfl)))))))) (fun j => (hF_162 51 j (fun q => q.elim (fun h => absurd h.1 (nn rfl)) (fun q => q.elim (fun h => absurd h.1 (nn rfl)) (fun h => absurd h.1 (nn rfl))))).trans ((up_c (nn rfl)).trans ((up_c (nn rfl)).trans ((hF_139 51 j (fun h => absurd h.1 (nn rfl))).trans ((hF_129 51 j (fun h => absurd h.1 (nn rfl))).trans (hF_124 51 j (fun h => absurd h.1 (nn rfl))))))))
                refine v_cv rfl rfl rfl rfl (by decide) ⟨⟨rfl, rfl⟩, by decide, rfl⟩ (Nat.le_of_ble_eq_true rfl) (Nat.le_of_ble_eq_true rfl) (H13 (m := c_71) (e1 := e1) (f0 := c_71 1 4) (g0 := c_71 1 5) (p0 := c_71 1 2) (n0 := n0) (o0 := o0 + 1) (by omega) (by omega) hI_161 hI_72 hI_78 (show 0 ≤ a2 + 1 ∧ a2 + 1 ≤ 6 from ⟨by first | exact rgp_l ha2.1 (by decide) | omega, by first | (clear ha2 hq0 hq1 hq2 hq3 hq4 hq5 hq8 h_1 h_2 h_3 h_4 h_5 h_6 h_7 h_8 h_9 h_10 h_11 h_46 h_65 h_66 h_75 h_76 h_81 h_82 h_87 h_88 h_93 h_94 h_99 h_101 h_103 h_104 h_105 h_106 h_107 h_108 h_109 h_110 h_111 h_112 h_113 h_114 h_115 h_116 h_117 h_118 h_119 h_121 h_134 h_136 h_167 h_168 h_169 h_170 h_171 h_172 hq6 hq7 h_12 h_21 h_37 h_120 h_132 h_165 h_166; omega) | omega⟩) (by first | (clear ha2 hq0 hq1 hq2 hq3 hq4 hq5 hq8 h_1 h_2 h_3 h_4 h_5 h_6 h_7 h_8 h_9 h_10 h_11 h_46 h_65 h_66 h_70 h_81 h_82 h_87 h_88 h_93 h_94 h_99 h_101 h_103 h_104 h_105 h_106 h_107 h_108 h_109 h_110 h_111 h_112 h_113 h_114 h_115 h_116 h_117 h_118 h_119 h_121 h_134 h_136 h_167 h_168 h_169 h_170 h_171 h_172 hq6 hq7 h_12 h_21 h_37 h_120 h_132 h_165 h_166; omega) | omega) (by first | (clear ha2 hq0 hq1 hq2 hq3 hq4 hq5 hq8 h_1 h_2 h_3 h_4 h_5 h_6 h_7 h_8 h_9 h_10 h_11 h_46 h_65 h_66 h_70 h_75 h_76 h_81 h_82 h_87 h_88 h_93 h_94 h_99 h_101 h_103 h_104 h_105 h_106 h_107 h_108 h_109 h_110 h_111 h_112 h_113 h_114 h_115 h_116 h_117 h_118 h_119 h_121 h_134 h_136 h_167 h_168 h_170 h_171 hq6 hq7 h_12 h_21 h_37 h_120 h_132 h_165 h_166; omega) | omega) (by first | (clear ha2 hq0 hq1 hq3 hq4 hq5 hq8 h_1 h_2 h_3 h_4 h_5 h_6 h_7 h_8 h_9 h_10 h_11 h_46 h_65 h_66 h_70 h_75 h_76 h_81 h_82 h_87 h_88 h_93 h_94 h_99 h_101 h_103 h_104 h_105 h_106 h_107 h_108 h_109 h_110 h_111 h_112 h_113 h_114 h_115 h_116 h_117 h_118 h_119 h_121 h_134 h_136 h_167 h_168 h_169 h_170 h_171 h_172 hq6 hq7 h_12 h_21 h_37 h_120 h_132 h_165 h_166; omega) | omega) (by first | (clear ha2 hq0 hq1 hq2 hq8 h_3 h_4 h_8 h_9 h_11 h_65 h_66 h_70 h_81 h_82 h_87 h_88 h_93 h_94 h_99 h_101 h_103 h_104 h_105 h_106 h_107 h_108 h_109 h_110 h_111 h_112 h_113 h_114 h_115 h_116 h_117 h_118 h_119 h_121 h_134 h_171 h_132; omega) | omega) (by first | (clear ha2 hq0 hq1 hq2 hq3 hq8 h_3 h_4 h_5 h_6 h_7 h_8 h_9 h_11 h_65 h_66 h_70 h_75 h_76 h_81 h_82 h_87 h_88 h_93 h_94 h_99 h_101 h_103 h_104 h_105 h_106 h_107 h_108 h_109 h_110 h_111 h_112 h_113 h_114 h_115 h_116 h_117 h_118 h_119 h_121 h_134 h_136 h_168 h_169 h_170 h_171 h_132 h_166; omega) | omega) (by first | (clear ha2 hq0 hq1 hq2 hq3 hq4 hq8 h_1 h_2 h_3 h_4 h_5 h_6 h_7 h_8 h_9 h_10 h_11 h_46 h_65 h_66 h_70 h_75 h_76 h_81 h_82 h_87 h_88 h_93 h_94 h_99 h_101 h_103 h_104 h_105 h_106 h_107 h_108 h_109 h_110 h_111 h_112 h_113 h_114 h_115 h_116 h_117 h_118 h_119 h_121 h_134 h_136 h_167 h_168 h_169 h_170 h_171 h_172 hq6 hq7 h_12 h_21 h_37 h_120 h_132 h_165 h_166; omega) | omega) ((hid kn_173)) ((hid kn_174)) (rfl) (rfl) (rfl) ((hid kn_179)) ((hid kn_183)) ((hid kn_184)) (fun j => ((hF_73 2 j (fun q => q.elim (fun h => absurd h.1 (nn rfl)) (fun q => q.elim (fun h => absurd h.1 (nn rfl)) (fun h => absurd h.1 (nn rfl))))).trans ((hF_64 2 j (fun q => q.elim (fun h => absurd h.1 (nn rfl)) (fun q => q.elim (fun h => absurd h.1 (nn rfl)) (fun h => absurd h.1 (nn rfl))))).trans ((hF_36 2 j (fun h => absurd h.1 (nn rfl))).trans ((hF_26 2 j (fun h => absurd h.1 (nn rfl))).trans (hF_20 2 j (fun h => absurd h.1 (nn rfl))))))).trans (hF j)) (fun j => ((hF_162 43 j (fun q => q.elim (fun h => absurd h.1 (nn rfl)) (fun q => q.elim (fun h => absurd h.1 (nn rfl)) (fun h => absurd h.1 (nn rfl))))).trans ((up_c (nn rfl)).trans ((up_c (nn rfl)).trans ((hF_139 43 j (fun h => absurd h.1 (nn rfl))).trans ((hF_129 43 j (fun h => absurd h.1 (nn rfl))).trans (hF_124 43 j (fun h => absurd h.1 (nn rfl)))))))).trans (hH j)) hU hR_164 (ce_le hA_185 (by omega)) hG_80 (fun c_186 hI_187 hF_188 hR_190 h_191 h_192 hA_193 => ?_))
                refine bk_inl ?_
                have h_194 := ir_41_29 hI_187
                have h_195 := ir_p7_5 hI_78 hA
                have h_196 := ir_1_2 hI_78
                have h_197 := ir_41_7 hI_187
                refine q_aload_n rfl rfl ?_
                refine v_bip rfl (by decide) ?_
                have h_198 := ir_41_5 hI_187
                have h_199 := ir_1_5 hI_78
                have h_200 := ir_41_4 hI_187
                have h_201 := ir_41_6 hI_187
                have h_202 := rt_ok hR_190 (by omega)
                have hro_hR_190 := rt_ok hR_190 (by omega)
                have kn_203 : Hid (c_77 1 1 = e1) := (hF_79 1 1 (fun q => q.elim (fun h => absurd h.2 (ni rfl)) (fun q => q.elim (fun h => absurd h.2 (ni rfl)) (fun q => q.elim (fun h => absurd h.2 (ni rfl)) (fun q => q.elim (fun h => absurd h.1 (pn hA rfl rfl)) (fun h => absurd h (pn hA rfl rfl))))))).trans (hid kn_173)
                have kn_204 : Hid (c_186 41 3 = e1) := (hF_188 41 3 (fun q => q.elim (fun h => absurd h.2 (ni rfl)) (fun q => q.elim (fun h => absurd h.2 (ni rfl)) (fun q => q.elim (fun h => absurd h.2 (ni rfl)) (fun q => q.elim (fun h => absurd h.2 (ni rfl)) (fun q => q.elim (fun h => absurd h.2 (ni rfl)) (fun q => q.elim (fun h => absurd h (nn rfl)) (fun h => absurd h (nn rfl))))))))).trans (hid kn_174)
                refine v_cv rfl rfl rfl rfl (by decide) ⟨⟨rfl, rfl⟩, by decide, rfl⟩ (Nat.le_of_ble_eq_true rfl) (Nat.le_of_ble_eq_true rfl) (L_11_4 (m := c_77) (e1 := e1) (a9 := c_77 1 2) (f0 := c_77 1 4) (F := F) (H := H) hI_187 hI_78 hI_84 ((hid kn_203)) ((hid kn_204)) (rfl) (rfl) (fun j => ((hF_79 2 j (fun q => q.elim (fun h => absurd h.1 (nn rfl)) (fun q => q.elim (fun h => absurd h.1 (nn rfl)) (fun q => q.elim (fun h => absurd h.1 (nn rfl)) (fun q => q.elim (fun h => absurd h.1 (pn hA rfl rfl)) (fun h => absurd h (pn hA rfl rfl))))))).trans ((hF_73 2 j (fun q => q.elim (fun h => absurd h.1 (nn rfl)) (fun q => q.elim (fun h => absurd h.1 (nn rfl)) (fun h => absurd h.1 (nn rfl))))).trans ((hF_64 2 j (fun q => q.elim (fun h => absurd h.1 (nn rfl)) (fun q => q.elim (fun h => absurd h.1 (nn rfl)) (fun h => absurd h.1 (nn rfl))))).trans ((hF_36 2 j (fun h => absurd h.1 (nn rfl))).trans ((hF_26 2 j (fun h => absurd h.1 (nn rfl))).trans (hF_20 2 j (fun h => absurd h.1 (nn rfl)))))))).trans (hF j)) (fun j => ((hF_188 43 j (fun q => q.elim (fun h => absurd h.1 (nn rfl)) (fun q => q.elim (fun h => absurd h.1 (nn rfl)) (fun q => q.elim (fun h => absurd h.1 (nn rfl)) (fun q => q.elim (fun h => absurd h.1 (nn rfl)) (fun q => q.elim (fun h => absurd h.1 (nn rfl)) (fun q => q.elim (fun h => absurd h (nn rfl)) (fun h => absurd h (nn rfl))))))))).trans ((hF_162 43 j (fun q => q.elim (fun h => absurd h.1 (nn rfl)) (fun q => q.elim (fun h => absurd h.1 (nn rfl)) (fun h => absurd h.1 (nn rfl))))).trans ((up_c (nn rfl)).trans ((up_c (nn rfl)).trans ((hF_139 43 j (fun h => absurd h.1 (nn rfl))).trans ((hF_129 43 j (fun h => absurd h.1 (nn rfl))).trans (hF_124 43 j (fun h => absurd h.1 (nn rfl))))))))).trans (hH j)) hU hR_190 hG_86 (fun c_205 hI_206 hF_207 hR_209 h_210 h_211 => ?_))
                refine bk_inl ?_
                have h_212 := ir_1_2 hI_84
                refine q_aload_n rfl rfl ?_
                have h_213 := ir_41_5 hI_206
                have h_214 := ir_1_5 hI_84
                have h_215 := ir_41_4 hI_206
                have h_216 := ir_41_6 hI_206
                have h_217 := rt_ok hR_209 (by omega)
                have hro_hR_209 := rt_ok hR_209 (by omega)
                have kn_218 : Hid (c_83 1 1 = e1) := (hF_85 1 1 (fun q => q.elim (fun h => absurd h.2 (ni rfl)) (fun q => q.elim (fun h => absurd h.2 (ni rfl)) (fun h => absurd h.2 (ni rfl))))).trans (hid kn_203)
                have kn_219 : Hid (c_205 41 3 = e1) := (hF_207 41 3 (fun q => q.elim (fun h => absurd h.2 (ni rfl)) (fun q => q.elim (fun h => absurd h.2 (ni rfl)) (fun h => absurd h.2 (ni rfl))))).trans (hid kn_204)
                have kn_220 : Hid (c_83 (A + 7) 5 = c_77 (A + 7) 5) := hF_85 (A + 7) 5 (fun q => q.elim (fun h => absurd h.1 (np hA rfl rfl)) (fun q => q.elim (fun h => absurd h.1 (np hA rfl rfl)) (fun h => absurd h.1 (np hA rfl rfl))))
                have kn_221 : Hid (c_205 41 29 = c_186 41 29) := hF_207 41 29 (fun q => q.elim (fun h => absurd h.2 (ni rfl)) (fun q => q.elim (fun h => absurd h.2 (ni rfl)) (fun h => absurd h.2 (ni rfl))))
                have kn_222 : Hid (c_205 41 7 = c_186 41 7) := hF_207 41 7 (fun q => q.elim (fun h => absurd h.2 (ni rfl)) (fun q => q.elim (fun h => absurd h.2 (ni rfl)) (fun h => absurd h.2 (ni rfl))))
                have hA_223 : Ce (c_186 41 29) (c_83 (A + 9)) (c_205 50) (c_205 51) := ce_fr (hA_193 (by omega)) (fun j => hF_85 (A + 9) j (fun q => q.elim (fun h => absurd h.1 (np hA rfl rfl)) (fun q => q.elim (fun h => absurd h.1 (np hA rfl rfl)) (fun h => absurd h.1 (np hA rfl rfl))))) (fun j => hF_207 50 j (fun q => q.elim (fun h => absurd h.1 (nn rfl)) (fun q => q.elim (fun h => absurd h.1 (nn rfl)) (fun h => absurd h.1 (nn rfl))))) (fun j => hF_207 51 j (fun q => q.elim (fun h => absurd h.1 (nn rfl)) (fun q => q.elim (fun h => absurd h.1 (nn rfl)) (fun h => absurd h.1 (nn rfl)))))
                have hA_224 : Ce (c_77 (A + 7) 5) (c_83 (A + 9)) (c_205 50) (c_205 51) := ce_le hA_223 (by omega)
                refine v_cv rfl rfl rfl rfl (by decide) ⟨⟨rfl, rfl⟩, by decide, rfl⟩ (Nat.le_of_ble_eq_true rfl) (Nat.le_of_ble_eq_true rfl) (H13 (m := c_83) (e1 := e1) (f0 := c_83 1 4) (g0 := c_83 1 5) (p0 := c_83 1 2) (n0 := c_77 (A + 7) 5) (o0 := c_186 41 7) (by omega) (by omega) hI_206 hI_84 hI_90 (show 0 ≤ a2 + 1 ∧ a2 + 1 ≤ 6 from ⟨by first | exact rgp_l ha2.1 (by decide) | omega, by first | (clear ha2 hq0 hq1 hq2 hq3 hq4 hq5 hq8 h_1 h_2 h_3 h_4 h_5 h_6 h_7 h_8 h_9 h_10 h_11 h_46 h_65 h_66 h_75 h_76 h_81 h_82 h_87 h_88 h_93 h_94 h_99 h_101 h_103 h_104 h_105 h_106 h_107 h_108 h_109 h_110 h_111 h_112 h_113 h_114 h_115 h_116 h_117 h_118 h_119 h_121 h_134 h_136 h_167 h_168 h_169 h_170 h_171 h_172 h_194 h_195 h_196 h_197 h_192 h_198 h_199 h_200 h_201 h_202 h_212 h_213 h_214 h_215 h_216 h_217 hq6 hq7 h_12 h_21 h_37 h_120 h_132 h_165 h_166 h_191 h_210 h_211; omega) | omega⟩) (by first | (clear ha2 hq0 hq1 hq2 hq3 hq4 hq5 hq8 h_1 h_2 h_3 h_4 h_5 h_6 h_7 h_8 h_9 h_10 h_11 h_46 h_65 h_66 h_70 h_75 h_76 h_81 h_82 h_93 h_94 h_99 h_101 h_103 h_104 h_105 h_106 h_107 h_108 h_109 h_110 h_111 h_112 h_113 h_114 h_115 h_116 h_117 h_118 h_119 h_121 h_134 h_136 h_167 h_168 h_169 h_170 h_171 h_172 h_194 h_195 h_196 h_197 h_192 h_198 h_199 h_200 h_201 h_202 h_212 h_213 h_214 h_215 h_216 h_217 hq6 hq7 h_12 h_21 h_37 h_120 h_132 h_165 h_166 h_191 h_210 h_211; omega) | omega) (by first | (clear ha2 hq0 hq1 hq2 hq3 hq4 hq5 hq8 h_1 h_2 h_3 h_4 h_5 h_6 h_7 h_8 h_9 h_10 h_11 h_46 h_65 h_66 h_70 h_75 h_76 h_81 h_82 h_87 h_88 h_93 h_94 h_99 h_101 h_103 h_104 h_105 h_106 h_107 h_108 h_109 h_110 h_111 h_112 h_113 h_114 h_115 h_116 h_117 h_118 h_119 h_121 h_134 h_136 h_167 h_168 h_169 h_170 h_171 h_172 h_194 h_195 h_196 h_197 h_192 h_198 h_199 h_200 h_201 h_202 h_212 h_213 h_215 h_216 hq6 hq7 h_12 h_21 h_37 h_120 h_132 h_165 h_166 h_191 h_210 h_211; omega) | omega) (by first | (clear ha2 hq0 hq1 hq2 hq3 hq4 hq5 hq8 h_1 h_2 h_3 h_4 h_5 h_6 h_7 h_8 h_9 h_10 h_11 h_46 h_65 h_66 h_70 h_75 h_76 h_81 h_82 h_87 h_88 h_93 h_94 h_99 h_101 h_103 h_104 h_105 h_106 h_107 h_108 h_109 h_110 h_111 h_112 h_113 h_114 h_115 h_116 h_117 h_118 h_119 h_121 h_134 h_136 h_167 h_168 h_169 h_170 h_171 h_172 h_194 h_195 h_196 h_197 h_198 h_199 h_200 h_201 h_202 h_212 h_213 h_214 h_215 h_216 h_217 hq6 hq7 h_12 h_21 h_37 h_120 h_132 h_165 h_166 h_191 h_210 h_211; omega) | omega) (by first | (clear ha2 hq0 hq1 hq2 hq8 h_3 h_4 h_5 h_8 h_9 h_11 h_65 h_66 h_70 h_75 h_76 h_93 h_94 h_99 h_101 h_103 h_104 h_105 h_106 h_107 h_108 h_109 h_110 h_111 h_112 h_113 h_114 h_115 h_116 h_117 h_118 h_119 h_121 h_134 h_136 h_168 h_169 h_170 h_171 h_197 h_192 h_198 h_199 h_200 h_201 h_216 h_132 h_166; omega) | omega) (by first | (clear ha2 hq0 hq1 hq2 hq3 hq8 h_3 h_4 h_5 h_6 h_7 h_8 h_9 h_11 h_65 h_66 h_70 h_75 h_76 h_81 h_82 h_87 h_88 h_93 h_94 h_99 h_101 h_103 h_104 h_105 h_106 h_107 h_108 h_109 h_110 h_111 h_112 h_113 h_114 h_115 h_116 h_117 h_118 h_119 h_121 h_134 h_136 h_167 h_168 h_169 h_170 h_171 h_172 h_194 h_195 h_196 h_197 h_192 h_198 h_199 h_200 h_201 h_202 h_213 h_214 h_215 h_216 h_132 h_166 h_211; omega) | omega) (by first | (clear ha2 hq0 hq1 hq2 hq3 hq4 hq8 h_1 h_2 h_3 h_4 h_5 h_6 h_7 h_8 h_9 h_10 h_11 h_46 h_65 h_66 h_70 h_75 h_76 h_81 h_82 h_87 h_88 h_93 h_94 h_99 h_101 h_103 h_104 h_105 h_106 h_107 h_108 h_109 h_110 h_111 h_112 h_113 h_114 h_115 h_116 h_117 h_118 h_119 h_121 h_134 h_136 h_167 h_168 h_169 h_170 h_171 h_172 h_194 h_195 h_196 h_197 h_192 h_198 h_199 h_200 h_201 h_202 h_212 h_213 h_214 h_215 h_216 h_217 hq6 hq7 h_12 h_21 h_37 h_120 h_132 h_165 h_166 h_191 h_210 h_211; omega) | omega) ((hid kn_218)) ((hid kn_219)) (rfl) (rfl) (rfl) ((hid kn_220)) (((show _ = c_186 41 29 from (hid kn_221)).trans (by omega))) ((hid kn_222)) (fun j => ((hF_85 2 j (fun q => q.elim (fun h => absurd h.1 (nn rfl)) (fun q => q.elim (fun h => absurd h.1 (nn rfl)) (fun h => absurd h.1 (nn rfl))))).trans ((hF_79 2 j (fun q => q.elim (fun h => absurd h.1 (nn rfl)) (fun q => q.elim (fun h => absurd h.1 (nn rfl)) (fun q => q.elim (fun h => absurd h.1 (nn rfl)) (fun q => q.elim (fun h => absurd h.1 (pn hA rfl rfl)) (fun h => absurd h (pn hA rfl rfl))))))).trans ((hF_73 2 j (fun q => q.elim (fun h => absurd h.1 (nn rfl)) (fun q => q.elim (fun h => absurd h.1 (nn rfl)) (fun h => absurd h.1 (nn rfl))))).trans ((hF_64 2 j (fun q => q.elim (fun h => absurd h.1 (nn rfl)) (fun q => q.elim (fun h => absurd h.1 (nn rfl)) (fun h => absurd h.1 (nn rfl))))).trans ((hF_36 2 j (fun h => absurd h.1 (nn rfl))).trans ((hF_26 2 j (fun h => absurd h.1 (nn rfl))).trans (hF_20 2 j (fun h => absurd h.1 (nn rfl))))))))).trans (hF j)) (fun j => ((hF_207 43 j (fun q => q.elim (fun h => absurd h.1 (nn rfl)) (fun q => q.elim (fun h => absurd h.1 (nn rfl)) (fun h => absurd h.1 (nn rfl))))).trans ((hF_188 43 j (fun q => q.elim (fun h => absurd h.1 (nn rfl)) (fun q => q.elim (fun h => absurd h.1 (nn rfl)) (fun q => q.elim (fun h => absurd h.1 (nn rfl)) (fun q => q.elim (fun h => absurd h.1 (nn rfl)) (fun q => q.elim (fun h => absurd h.1 (nn rfl)) (fun q => q.elim (fun h => absurd h (nn rfl)) (fun h => absurd h (nn rfl))))))))).trans ((hF_162 43 j (fun q => q.elim (fun h => absurd h.1 (nn rfl)) (fun q => q.elim (fun h => absurd h.1 (nn rfl)) (fun h => absurd h.1 (nn rfl))))).trans ((up_c (nn rfl)).trans ((up_c (nn rfl)).trans ((hF_139 43 j (fun h => absurd h.1 (nn rfl))).trans ((hF_129 43 j (fun h => absurd h.1 (nn rfl))).trans (hF_124 43 j (fun h => absurd h.1 (nn rfl)))))))))).trans (hH j)) hU hR_209 (ce_le hA_224 (by omega)) hG_92 (fun c_225 hI_226 hF_227 hR_229 h_230 h_231 hA_232 => ?_))
                refine bk_inl ?_
                have h_233 := ir_41_29 hI_226
                have h_234 := ir_1_2 hI_90
                have h_235 := ir_41_7 hI_226
                refine q_aload_n rfl rfl ?_
                refine v_bip rfl (by decide) ?_
                have h_236 := ir_41_5 hI_226
                have h_237 := ir_1_5 hI_90
                have h_238 := ir_41_4 hI_226
                have h_239 := ir_41_6 hI_226
                have h_240 := rt_ok hR_229 (by omega)
                have hro_hR_229 := rt_ok hR_229 (by omega)
                refine v_cv rfl rfl rfl rfl (by decide) ⟨⟨rfl, rfl⟩, by decide, rfl⟩ (Nat.le_of_ble_eq_true rfl) (Nat.le_of_ble_eq_true rfl) ?_
                refine q_aload_n rfl rfl ?_
                refine v_cv rfl rfl rfl rfl (by decide) ⟨⟨rfl, rfl⟩, by decide, rfl⟩ (Nat.le_of_ble_eq_true rfl) (Nat.le_of_ble_eq_true rfl) ?_
                refine q_aload_n rfl rfl ?_
                refine v_gi (z := 5) (v := (-1)) rfl rfl rfl (by decide) rfl rfl hro_hR_229.2.1 ?_
                refine q_iconst rfl ?_
                refine v_ic_ne_f (t := 12) rfl (by decide) (by decide) ?_
                refine q_iconst rfl ?_
                refine q_goto (t := 13) rfl (by decide) ?_
                refine v_zret rfl rfl (by decide) ?_
                refine bk_inl ?_
                refine v_if_eq_f (t := 24) rfl (by decide) (by decide) ?_
                refine q_aload_n rfl rfl ?_
                have kn_241 : Hid (c_225 41 3 = e1) := (hF_227 41 3 (fun q => q.elim (fun h => absurd h.2 (ni rfl)) (fun q => q.elim (fun h => absurd h.2 (ni rfl)) (fun q => q.elim (fun h => absurd h.2 (ni rfl)) (fun q => q.elim (fun h => absurd h.2 (ni rfl)) (fun q => q.elim (fun h => absurd h.2 (ni rfl)) (fun q => q.elim (fun h => absurd h (nn rfl)) (fun h => absurd h (nn rfl))))))))).trans (hid kn_219)
                have h_242 : -2147483648 ≤ (F (c_89 1 2)) ∧ (F (c_89 1 2)) ≤ 2147483647 := by rw [← hF (c_89 1 2)]; exact ir_2 hJ (c_89 1 2)
                have h_243 : -2147483648 ≤ (H (c_89 1 2)) ∧ (H (c_89 1 2)) ≤ 2147483647 := by rw [← hH (c_89 1 2)]; exact ir_43 hI (c_89 1 2)
                have h_244 := hU (c_89 1 2) (by omega) (by omega)
                have h_245 := hb_or (b := H) (e := e1) (r := c_89 1 2)
                have h_246 := hb_bd (b := H) (e := e1) (r := c_89 1 2) (lo := -2147483648) (hi := 2147483647) h_243 (by decide)
                refine v_cv rfl rfl rfl rfl (by decide) ⟨⟨rfl, rfl⟩, by decide, rfl⟩ (Nat.le_of_ble_eq_true rfl) (Nat.le_of_ble_eq_true rfl) (f_154 (e1 := e1) (a9 := c_89 1 2) (B := H) (r8 := c_89 1 2) (r := (hb H e1 (c_89 1 2))) hI_226 ((hid kn_241)) (hro_hR_229.2.2.1) (fun j => ((hF_227 43 j (fun q => q.elim (fun h => absurd h.1 (nn rfl)) (fun q => q.elim (fun h => absurd h.1 (nn rfl)) (fun q => q.elim (fun h => absurd h.1 (nn rfl)) (fun q => q.elim (fun h => absurd h.1 (nn rfl)) (fun q => q.elim (fun h => absurd h.1 (nn rfl)) (fun q => q.elim (fun h => absurd h (nn rfl)) (fun h => absurd h (nn rfl))))))))).trans ((hF_207 43 j (fun q => q.elim (fun h => absurd h.1 (nn rfl)) (fun q => q.elim (fun h => absurd h.1 (nn rfl)) (fun h => absurd h.1 (nn rfl))))).trans ((hF_188 43 j (fun q => q.elim (fun h => absurd h.1 (nn rfl)) (fun q => q.elim (fun h => absurd h.1 (nn rfl)) (fun q => q.elim (fun h => absurd h.1 (nn rfl)) (fun q => q.elim (fun h => absurd h.1 (nn rfl)) (fun q => q.elim (fun h => absurd h.1 (nn rfl)) (fun q => q.elim (fun h => absurd h (nn rfl)) (fun h => absurd h (nn rfl))))))))).trans ((hF_162 43 j (fun q => q.elim (fun h => absurd h.1 (nn rfl)) (fun q => q.elim (fun h => absurd h.1 (nn rfl)) (fun h => absurd h.1 (nn rfl))))).trans ((up_c (nn rfl)).trans ((up_c (nn rfl)).trans ((hF_139 43 j (fun h => absurd h.1 (nn rfl))).trans ((hF_129 43 j (fun h => absurd h.1 (nn rfl))).trans (hF_124 43 j (fun h => absurd h.1 (nn rfl))))))))))).trans (hH j)) ((nx_tr hU (by first | (clear ha2 hq0 hq1 hq2 hq3 hq4 hq5 hq8 h_1 h_2 h_3 h_4 h_5 h_6 h_7 h_8 h_9 h_10 h_11 h_46 h_65 h_66 h_70 h_75 h_76 h_81 h_82 h_87 h_88 h_93 h_94 h_99 h_101 h_103 h_104 h_105 h_106 h_107 h_108 h_109 h_110 h_111 h_112 h_113 h_114 h_115 h_116 h_117 h_118 h_119 h_121 h_134 h_136 h_167 h_168 h_169 h_170 h_171 h_172 h_194 h_195 h_196 h_197 h_192 h_198 h_199 h_200 h_201 h_202 h_212 h_213 h_214 h_215 h_216 h_217 h_233 h_235 h_231 h_236 h_237 h_238 h_239 h_240 h_242 hq6 hq7 h_12 h_21 h_37 h_120 h_132 h_165 h_166 h_191 h_210 h_211 h_230; omega) | omega) (by first | (clear ha2 hq0 hq1 hq2 hq3 hq4 hq8 h_1 h_2 h_3 h_4 h_5 h_6 h_7 h_8 h_9 h_10 h_11 h_46 h_65 h_66 h_70 h_75 h_76 h_81 h_82 h_87 h_88 h_93 h_94 h_99 h_101 h_103 h_104 h_105 h_106 h_107 h_108 h_109 h_110 h_111 h_112 h_113 h_114 h_115 h_116 h_117 h_118 h_119 h_121 h_134 h_136 h_167 h_168 h_169 h_170 h_171 h_172 h_194 h_195 h_196 h_197 h_192 h_198 h_199 h_200 h_201 h_202 h_212 h_213 h_214 h_215 h_216 h_217 h_233 h_234 h_235 h_231 h_236 h_237 h_238 h_239 h_240 h_242 hq6 hq7 h_12 h_21 h_37 h_120 h_132 h_165 h_166 h_191 h_210 h_211 h_230; omega) | omega)).trans ((nx_z (by omega)))) rfl (fun c_247 hI_248 hF_249 h_250 => ?_))
                refine bk_inl ?_
                refine q_iload_n rfl rfl ?_
                refine v_ic_eq_f (t := 24) rfl (by decide) ⟨by first | (clear ha2 hq0 hq1 hq2 hq8 h_3 h_4 h_8 h_9 h_65 h_66 h_70 h_103 h_104 h_105 h_106 h_107 h_108 h_109 h_110 h_111 h_112 h_114 h_115 h_116 h_117 h_134 h_168 h_169 h_170 h_171 h_197 h_192 h_198 h_199 h_200 h_201 h_213 h_214 h_215 h_216 h_235 h_231 h_239; omega) | omega, ⟨h_246.1, h_246.2⟩, by decide, by decide⟩ ?_
                refine q_aload_n rfl rfl ?_
                refine q_iconst rfl ?_
                refine q_aload_n rfl rfl ?_
                refine v_gi (z := 4) (v := c_89 1 2) rfl rfl rfl (by decide) rfl rfl (h_250) ?_
                refine v_cv rfl rfl rfl rfl (by decide) ⟨⟨rfl, rfl⟩, by decide, rfl⟩ (Nat.le_of_ble_eq_true rfl) (Nat.le_of_ble_eq_true rfl) ?_
                refine q_aload_n rfl rfl ?_
                have kn_251 : Hid (c_247 41 5 = (-1)) := (hF_249 41 5 (fun h => absurd h.2 (ni rfl))).trans hro_hR_229.2.1
                refine v_gi (z := 5) (v := (-1)) rfl rfl rfl (by decide) rfl rfl (hid kn_251) ?_
                refine q_iconst rfl ?_
                refine v_ic_eq_t (t := 9) rfl (by decide) (by decide) ?_
                refine q_aload_n rfl rfl ?_
                refine q_iload_n rfl rfl ?_
                refine v_pi (z := 5) rfl rfl rfl (by decide) rfl rfl rfl (by decide) ?_
                refine q_aload_n rfl rfl ?_
                refine q_iload_n rfl rfl ?_
                refine v_pi (z := 6) rfl rfl rfl (by decide) rfl rfl rfl (by decide) ?_
                refine q_vret rfl rfl ?_
                refine bk_inl ?_
                refine q_aload_n rfl rfl ?_
                refine v_cv rfl rfl rfl rfl (by decide) ⟨⟨rfl, rfl⟩, by decide, rfl⟩ (Nat.le_of_ble_eq_true rfl) (Nat.le_of_ble_eq_true rfl) ?_
                refine q_aload_n rfl rfl ?_
                refine v_gi (z := 5) (v := c_89 1 2) rfl rfl rfl (by decide) rfl rfl ((up_n (by decide)).trans (up_e rfl)) ?_
                refine q_iconst rfl ?_
                refine v_ic_ne_f (t := 12) rfl (by decide) (by first | (clear ha2 hq0 hq1 hq2 hq8 h_3 h_4 h_8 h_9 h_65 h_66 h_70 h_103 h_104 h_105 h_106 h_107 h_108 h_109 h_110 h_111 h_114 h_115 h_116 h_117 h_134 h_168 h_169 h_170 h_171 h_197 h_192 h_198 h_199 h_200 h_201 h_216 h_235 h_231 h_239; omega) | omega) ?_
                refine q_iconst rfl ?_
                refine q_goto (t := 13) rfl (by decide) ?_
                refine v_zret rfl rfl (by decide) ?_
                refine bk_inl ?_
                refine v_if_eq_f (t := 41) rfl (by decide) (by decide) ?_
                refine q_aload_n rfl rfl ?_
                refine q_dup rfl rfl ?_
                refine v_gi (z := 4) (v := c_89 1 2) rfl rfl rfl (by decide) rfl rfl ((up_n (by decide)).trans ((up_n (by decide)).trans (h_250))) ?_
                refine q_iconst rfl ?_
                refine v_iadd (v := c_89 1 2 + 1) rfl rfl ?_
                refine v_pi (z := 4) rfl rfl rfl (by decide) rfl rfl rfl (by decide) ?_
                refine q_vret rfl rfl ?_
                refine bk_inl ?_
                refine q_aload_n rfl rfl ?_
                refine q_dup rfl rfl ?_
                have kn_252 : Hid (c_247 41 7 = c_225 41 7) := hF_249 41 7 (fun h => absurd h.2 (ni rfl))
                refine v_gi (z := 7) (v := c_225 41 7) rfl rfl rfl (by decide) rfl rfl ((up_n (by decide)).trans ((up_n (by decide)).trans ((up_n (by decide)).trans (hid kn_252)))) ?_
                refine q_iconst rfl ?_
                refine v_isub (v := c_225 41 7 - 1) rfl rfl ?_
                refine v_pi (z := 7) rfl rfl rfl (by decide) rfl rfl rfl (by decide) ?_
                refine q_aload_n rfl rfl ?_
                refine q_iload_n rfl rfl ?_
                refine q_iconst rfl ?_
                refine v_cv rfl rfl rfl rfl (by decide) ⟨⟨rfl, rfl⟩, by decide, rfl⟩ (Nat.le_of_ble_eq_true rfl) (Nat.le_of_ble_eq_true rfl) ?_
                refine q_aload_n rfl rfl ?_
                refine v_cv rfl rfl rfl rfl (by decide) ⟨⟨rfl, rfl⟩, by decide, rfl⟩ (Nat.le_of_ble_eq_true rfl) (Nat.le_of_ble_eq_true rfl) ?_
                refine q_aload_n rfl rfl ?_
                refine v_gi (z := 5) (v := c_89 1 2) rfl rfl rfl (by decide) rfl rfl ((up_n (by decide)).trans ((up_n (by decide)).trans ((up_n (by decide)).trans (up_e rfl)))) ?_
                refine q_iconst rfl ?_
                refine v_ic_ne_f (t := 12) rfl (by decide) (by first | (clear ha2 hq0 hq1 hq2 hq8 h_3 h_4 h_8 h_9 h_65 h_66 h_70 h_103 h_104 h_105 h_106 h_107 h_108 h_109 h_110 h_111 h_114 h_115 h_116 h_117 h_134 h_168 h_169 h_170 h_171 h_197 h_192 h_198 h_199 h_200 h_201 h_216 h_235 h_231 h_239; omega) | omega) ?_
                refine q_iconst rfl ?_
                refine q_goto (t := 13) rfl (by decide) ?_
                refine v_zret rfl rfl (by decide) ?_
                refine bk_inl ?_
                refine v_if_ne_t (t := 8) rfl (by decide) (by decide) ?_
                refine q_aload_n rfl rfl ?_
                refine v_gr (t := 50) rfl rfl rfl (by decide) rfl ?_
                refine q_aload_n rfl rfl ?_
                have kn_253 : Hid (c_247 41 29 = c_225 41 29) := hF_249 41 29 (fun h => absurd h.2 (ni rfl))
                refine v_gi (z := 29) (v := c_225 41 29) rfl rfl rfl (by decide) rfl rfl ((up_n (by decide)).trans ((up_n (by decide)).trans ((up_n (by decide)).trans ((up_n (by decide)).trans (hid kn_253))))) ?_
                refine q_iload_n rfl rfl ?_
                refine v_is rfl rfl (by decide) (by decide) (by omega) ?_
                refine q_aload_n rfl rfl ?_
                refine v_gr (t := 51) rfl rfl rfl (by decide) rfl ?_
                refine q_aload_n rfl rfl ?_
                refine v_gi (z := 29) (v := c_225 41 29) rfl rfl rfl (by decide) rfl rfl ((up_c (nn rfl)).trans ((up_n (by decide)).trans ((up_n (by decide)).trans ((up_n (by decide)).trans ((up_n (by decide)).trans (hid kn_253)))))) ?_
                refine q_iload_n rfl rfl ?_
                refine v_is rfl rfl (by decide) (by decide) (by omega) ?_
                refine q_aload_n rfl rfl ?_
                refine q_dup rfl rfl ?_
                refine v_gi (z := 29) (v := c_225 41 29) rfl rfl rfl (by decide) rfl rfl ((up_c (nn rfl)).trans ((up_c (nn rfl)).trans ((up_n (by decide)).trans ((up_n (by decide)).trans ((up_n (by decide)).trans ((up_n (by decide)).trans (hid kn_253))))))) ?_
                refine q_iconst rfl ?_
                refine v_iadd (v := c_225 41 29 + 1) rfl rfl ?_
                refine v_pi (z := 29) rfl rfl rfl (by decide) rfl rfl rfl (by decide) ?_
                refine q_vret rfl rfl ?_
                refine bk_inl ?_
                refine q_vret rfl rfl ?_
                refine bk_inl ?_
                refine q_goto (t := 154) rfl (by decide) ?_
                refine q_vret rfl rfl ?_
                exfalso; omega
              · refine v_ic_ge_f (t := 32) rfl (by decide) ⟨by first | (clear ha2 hq0 hq1 hq2 hq3 hq4 hq5 hq8 h_1 h_2 h_3 h_4 h_5 h_6 h_7 h_8 h_9 h_10 h_11 h_46 h_65 h_66 h_70 h_75 h_76 h_81 h_82 h_87 h_88 h_93 h_94 hq6 hq7 h_12 h_21 h_37; omega) | omega, (Int.not_le.mp h_101), by decide⟩ ?_
                refine q_aload_n rfl rfl ?_
                refine v_gr (t := (A + 9)) rfl rfl (ck_p7 hA) (a68 hA rfl) rfl ?_
                refine q_aload_n rfl rfl ?_
                refine v_gi (z := 5) (v := c_89 (A + 7) 5) rfl rfl (ck_p7 hA) (a68 hA rfl) rfl rfl (hid kn_100) ?_
                refine q_iload_n rfl rfl ?_
                refine v_is rfl (ck_p9 hA) (a68 hA rfl) (by decide) (by omega) ?_
                refine q_aload_n rfl rfl ?_
                refine q_dup rfl rfl ?_
                refine v_gi (z := 5) (v := c_89 (A + 7) 5) rfl rfl (ck_p7 hA) (a68 hA rfl) rfl rfl ((up_c (pp rfl)).trans (hid kn_100)) ?_
                refine q_iconst rfl ?_
                refine v_iadd (v := c_89 (A + 7) 5 + 1) rfl rfl ?_
                refine v_pi (z := 5) rfl rfl (ck_p7 hA) (a68 hA rfl) rfl rfl rfl (by decide) ?_
                refine q_vret rfl rfl ?_
                refine bk_inl ?_
                refine q_vret rfl rfl ?_
                have hI_254 := iw_lg (j := c_89 (A + 7) 5) (v := (wd1_0 F (nx F e1 p0) (ln F e1 (nx F e1 p0))) + 1997) hI_96 (lgp (k := 9) hA (by decide)) ⟨by omega, by omega⟩ (by omega)
                have hI_255 := iw_p7_5 (v := c_89 (A + 7) 5 + 1) hI_254 hA ⟨by first | (clear ha2 hq0 hq1 hq2 hq3 hq4 hq5 hq8 h_1 h_2 h_3 h_4 h_5 h_6 h_7 h_8 h_9 h_10 h_11 h_46 h_65 h_66 h_70 h_75 h_76 h_81 h_82 h_87 h_88 h_93 h_94 hq6 hq7 h_12 h_21 h_37; omega) | omega, by first | (clear ha2 hq0 hq1 hq2 hq3 hq4 hq5 hq8 h_1 h_2 h_3 h_4 h_5 h_6 h_7 h_8 h_9 h_10 h_11 h_46 h_65 h_66 h_70 h_75 h_76 h_81 h_82 h_87 h_88 h_93 h_94 h_99 hq6 hq7 h_12 h_21 h_37; omega) | omega⟩
                intro hE_256
                have hW : Wd P Q P P (up (up c_95 (A + 9) (c_89 (A + 7) 5) ((wd1_0 F (nx F e1 p0) (ln F e1 (nx F e1 p0))) + 1997)) (A + 7) 5 (c_89 (A + 7) 5 + 1)) = Wd P Q P P m9 := (Prod.mk.inj (Prod.mk.inj hE_256).2).1
                have h_257 := ir_1_4 hI_96
                have h_258 := ir_1_4 hJ9
                have h_259 : m9 1 4 = c_95 1 4 := wd_fv (z := 4) 4 rfl hW rfl rfl rfl rfl (by decide) ((up_c (pn hA rfl rfl)).trans (up_c (pn hA rfl rfl))) ⟨(Int.le_trans (by decide) h_257.1), (Int.le_trans h_257.2 (by decide))⟩ ⟨(Int.le_trans (by decide) h_258.1), (Int.le_trans h_258.2 (by decide))⟩
                have h_260 := ir_1_2 hI_96
                have h_261 := ir_1_2 hJ9
                have h_262 : m9 1 2 = c_95 1 2 := wd_fv (z := 2) 2 rfl hW rfl rfl rfl rfl (by decide) ((up_c (pn hA rfl rfl)).trans (up_c (pn hA rfl rfl))) ⟨(Int.le_trans (by decide) h_260.1), (Int.le_trans h_260.2 (by decide))⟩ ⟨(Int.le_trans (by decide) h_261.1), (Int.le_trans h_261.2 (by decide))⟩
                have h_263 := ir_1_5 hI_96
                have h_264 := ir_1_5 hJ9
                have h_265 : m9 1 5 = c_95 1 5 := wd_fv (z := 5) 5 rfl hW rfl rfl rfl rfl (by decide) ((up_c (pn hA rfl rfl)).trans (up_c (pn hA rfl rfl))) ⟨(Int.le_trans (by decide) h_263.1), (Int.le_trans h_263.2 (by decide))⟩ ⟨(Int.le_trans (by decide) h_264.1), (Int.le_trans h_264.2 (by decide))⟩
                have h_266 := ir_p7_5 hJ9 hA
                have h_267 : m9 (A + 7) 5 = c_89 (A + 7) 5 + 1 := wd_fv (z := 5) 5 rfl hW (ck_p7 hA) (ck_p7 hA) rfl rfl (by omega) (up_e rfl) ⟨by first | (clear ha2 hq0 hq1 hq2 hq3 hq4 hq5 hq8 h_1 h_2 h_3 h_4 h_5 h_6 h_7 h_8 h_9 h_10 h_11 h_46 h_65 h_66 h_70 h_75 h_76 h_81 h_82 h_87 h_88 h_93 h_94 h_257 h_258 h_259 h_260 h_261 h_262 h_263 h_264 h_265 h_266 hq6 hq7 h_12 h_21 h_37; omega) | omega, by first | (clear ha2 hq0 hq1 hq2 hq3 hq4 hq5 hq8 h_1 h_2 h_3 h_4 h_5 h_6 h_7 h_8 h_9 h_10 h_11 h_46 h_65 h_66 h_70 h_75 h_76 h_81 h_82 h_87 h_88 h_93 h_94 h_99 h_257 h_258 h_259 h_260 h_261 h_262 h_263 h_264 h_265 h_266 hq6 hq7 h_12 h_21 h_37; omega) | omega⟩ ⟨(Int.le_trans (by decide) h_266.1), (Int.le_trans h_266.2 (by decide))⟩
                refine q_aload_n rfl rfl ?_
                refine v_cv rfl rfl rfl rfl (by decide) ⟨⟨rfl, rfl⟩, by decide, rfl⟩ (Nat.le_of_ble_eq_true rfl) (Nat.le_of_ble_eq_true rfl) ?_
                refine q_aload_n rfl rfl ?_
                have h_268 := ir_41_5 hI
                have h_269 := ir_41_4 hI
                have h_270 := ir_41_6 hI
                have h_271 := rt_ok hRt (by omega)
                have hro_hRt := rt_ok hRt (by omega)
                refine v_gi (z := 5) (v := (-1)) rfl rfl rfl (by decide) rfl rfl hro_hRt.2.1 ?_
                refine q_iconst rfl ?_
                refine v_ic_ne_f (t := 12) rfl (by decide) (by decide) ?_
                refine q_iconst rfl ?_
                refine q_goto (t := 13) rfl (by decide) ?_
                refine v_zret rfl rfl (by decide) ?_
                refine bk_inl ?_
                refine v_if_ne_t (t := 8) rfl (by decide) (by decide) ?_
                refine q_aload_n rfl rfl ?_
                have h_272 : -2147483648 ≤ (H (nx F e1 p0)) ∧ (H (nx F e1 p0)) ≤ 2147483647 := by rw [← hH (nx F e1 p0)]; exact ir_43 hI (nx F e1 p0)
                have h_273 := hU (nx F e1 p0) (by omega) (by omega)
                have h_274 := hb_or (b := H) (e := e1) (r := (nx F e1 p0))
                have h_275 := hb_bd (b := H) (e := e1) (r := (nx F e1 p0)) (lo := -2147483648) (hi := 2147483647) h_272 (by decide)
                refine v_cv rfl rfl rfl rfl (by decide) ⟨⟨rfl, rfl⟩, by decide, rfl⟩ (Nat.le_of_ble_eq_true rfl) (Nat.le_of_ble_eq_true rfl) (f_154 (e1 := e1) (a9 := p0) (B := H) (r8 := (nx F e1 p0)) (r := (hb H e1 (nx F e1 p0))) hI ((hr_e1)) (((hro_hRt.2.2.1).trans ((hg_p0)))) (fun j => hH j) ((nx_tr hU (by first | (clear ha2 hq0 hq1 hq2 hq3 hq4 hq5 hq8 h_1 h_2 h_3 h_4 h_6 h_7 h_8 h_9 h_10 h_11 h_46 h_65 h_66 h_70 h_75 h_76 h_81 h_82 h_87 h_88 h_93 h_94 h_99 h_257 h_258 h_259 h_260 h_261 h_262 h_263 h_264 h_265 h_266 h_267 h_268 h_269 h_270 h_271 hq6 hq7 h_12 h_21 h_37; omega) | omega) (by first | (clear ha2 hq0 hq1 hq2 hq3 hq4 hq8 h_1 h_2 h_3 h_4 h_5 h_6 h_7 h_8 h_9 h_10 h_11 h_46 h_65 h_66 h_70 h_75 h_76 h_81 h_82 h_87 h_88 h_93 h_94 h_99 h_257 h_258 h_259 h_260 h_261 h_262 h_263 h_264 h_265 h_266 h_267 h_268 h_269 h_270 h_271 hq6 hq7 h_12 h_21 h_37; omega) | omega)).trans (rfl)) rfl (fun c_276 hI_277 hF_278 h_279 => ?_))
                refine bk_inl ?_
                refine v_bip rfl (by decide) ?_
                refine v_ic_ne_t (t := 45) rfl (by decide) ⟨by first | (clear ha2 hq0 hq1 hq2 hq3 hq8 h_3 h_4 h_5 h_6 h_7 h_8 h_9 h_11 h_65 h_66 h_70 h_75 h_76 h_81 h_82 h_87 h_88 h_93 h_94 h_99 h_257 h_258 h_259 h_260 h_261 h_262 h_263 h_264 h_265 h_266 h_267 h_268 h_269 h_270 h_271; omega) | omega, ⟨h_275.1, h_275.2⟩, by decide, by decide⟩ ?_
                refine q_aload_n rfl rfl ?_
                have kn_280 : Hid (c_276 41 3 = e1) := (hF_278 41 3 (fun h => absurd h.2 (ni rfl))).trans (hr_e1)
                refine v_cv rfl rfl rfl rfl (by decide) ⟨⟨rfl, rfl⟩, by decide, rfl⟩ (Nat.le_of_ble_eq_true rfl) (Nat.le_of_ble_eq_true rfl) (f_154 (e1 := e1) (a9 := (nx F e1 p0)) (B := H) (r8 := (nx F e1 p0)) (r := (hb H e1 (nx F e1 p0))) hI_277 ((hid kn_280)) ((h_279)) (fun j => (hF_278 43 j (fun h => absurd h.1 (nn rfl))).trans (hH j)) ((nx_tr hU (by first | (clear ha2 hq0 hq1 hq2 hq3 hq4 hq5 hq8 h_1 h_2 h_3 h_4 h_6 h_7 h_8 h_9 h_11 h_46 h_65 h_66 h_70 h_75 h_76 h_81 h_82 h_87 h_88 h_93 h_94 h_99 h_257 h_258 h_259 h_260 h_261 h_262 h_263 h_264 h_265 h_266 h_267 h_268 h_269 h_270 h_271 h_272 h_273 h_275 hq6 hq7 h_12 h_21 h_37 h_274; omega) | omega) (by first | (clear ha2 hq0 hq1 hq2 hq3 hq4 hq8 h_1 h_2 h_3 h_4 h_5 h_6 h_7 h_8 h_9 h_10 h_11 h_46 h_65 h_66 h_70 h_75 h_76 h_81 h_82 h_87 h_88 h_93 h_94 h_99 h_257 h_258 h_259 h_260 h_261 h_262 h_263 h_264 h_265 h_266 h_267 h_268 h_269 h_270 h_271 h_272 h_273 h_275 hq6 hq7 h_12 h_21 h_37 h_274; omega) | omega)).trans ((nx_z (by omega)))) rfl (fun c_281 hI_282 hF_283 h_284 => ?_))
                refine bk_inl ?_
                refine q_call rfl rfl rfl rfl (f_156 (a0 := (hb H e1 (nx F e1 p0))) hI_282 (show (-2147483648) ≤ (hb H e1 (nx F e1 p0)) ∧ (hb H e1 (nx F e1 p0)) ≤ 2147483647 from h_275) (fun y_285 hy_285 h_286 => ?_))
                refine bk_inl ?_
                refine v_if_eq_t (t := 71) rfl (by decide) (by first | (clear ha2 hq0 hq1 hq2 hq3 hq8 h_3 h_4 h_5 h_6 h_7 h_8 h_9 h_11 h_65 h_66 h_70 h_75 h_76 h_81 h_82 h_87 h_88 h_93 h_94 h_99 h_257 h_258 h_259 h_260 h_261 h_262 h_263 h_264 h_265 h_266 h_267 h_268 h_269 h_270 h_271; omega) | omega) ?_
                refine q_aload_n rfl rfl ?_
                have kn_287 : Hid (c_281 41 3 = e1) := (hF_283 41 3 (fun h => absurd h.2 (ni rfl))).trans (hid kn_280)
                have h_288 := wv_bd (b := F) (r := (nx F e1 p0)) (l := (ln F e1 (nx F e1 p0))) (fun j h1 h2 => ⟨(ln_in (e := e1) (a := (nx F e1 p0)) h1 h2).1, (ln_in (e := e1) (a := (nx F e1 p0)) h1 h2).2.1⟩)
                have h_289 := wr1_8 (b := F) (r := (nx F e1 p0)) (l := (ln F e1 (nx F e1 p0))) (by omega) (fun j h1 h2 => ⟨(ln_in (e := e1) (a := (nx F e1 p0)) h1 h2).1, (ln_in (e := e1) (a := (nx F e1 p0)) h1 h2).2.1⟩) (by omega)
                have h_290 : (wv F (nx F e1 p0) (ln F e1 (nx F e1 p0))) = 12748404 → (ln F e1 (nx F e1 p0)) - (nx F e1 p0) = 5 := wl_least (by omega) (fun j h1 h2 => ⟨(ln_in (e := e1) (a := (nx F e1 p0)) h1 h2).1, (ln_in (e := e1) (a := (nx F e1 p0)) h1 h2).2.1⟩)
                refine v_cv rfl rfl rfl rfl (by decide) ⟨⟨rfl, rfl⟩, by decide, rfl⟩ (Nat.le_of_ble_eq_true rfl) (Nat.le_of_ble_eq_true rfl) (f_157 (e1 := e1) (a9 := (nx F e1 p0)) (B := H) (r8 := (nx F e1 p0)) (L8 := (ln F e1 (nx F e1 p0))) (W8 := (wv F (nx F e1 p0) (ln F e1 (nx F e1 p0)))) hI_282 ((hid kn_287)) ((h_284)) (fun j => ((hF_283 43 j (fun h => absurd h.1 (nn rfl))).trans (hF_278 43 j (fun h => absurd h.1 (nn rfl)))).trans (hH j)) ((nx_tr hU (by first | (clear ha2 hq0 hq1 hq2 hq3 hq4 hq5 hq8 h_1 h_2 h_3 h_4 h_6 h_7 h_8 h_9 h_11 h_46 h_65 h_66 h_70 h_75 h_76 h_81 h_82 h_87 h_88 h_93 h_94 h_99 h_257 h_258 h_259 h_260 h_261 h_262 h_263 h_264 h_265 h_266 h_267 h_268 h_269 h_270 h_271 h_272 h_273 h_275 hq6 hq7 h_12 h_21 h_37 h_274 h_286; omega) | omega) (by first | (clear ha2 hq0 hq1 hq2 hq3 hq4 hq8 h_1 h_2 h_3 h_4 h_5 h_6 h_7 h_8 h_9 h_10 h_11 h_46 h_65 h_66 h_70 h_75 h_76 h_81 h_82 h_87 h_88 h_93 h_94 h_99 h_257 h_258 h_259 h_260 h_261 h_262 h_263 h_264 h_265 h_266 h_267 h_268 h_269 h_270 h_271 h_272 h_273 h_275 hq6 hq7 h_12 h_21 h_37 h_274 h_286; omega) | omega)).trans ((nx_z (by omega)))) ((ln_tr hU (by first | (clear ha2 hq0 hq1 hq2 hq3 hq4 hq5 hq8 h_1 h_2 h_3 h_4 h_6 h_7 h_8 h_9 h_11 h_46 h_65 h_66 h_70 h_75 h_76 h_81 h_82 h_87 h_88 h_93 h_94 h_99 h_257 h_258 h_259 h_260 h_261 h_262 h_263 h_264 h_265 h_266 h_267 h_268 h_269 h_270 h_271 h_272 h_273 h_275 hq6 hq7 h_12 h_21 h_37 h_274 h_286; omega) | omega) (by first | (clear ha2 hq0 hq1 hq2 hq3 hq4 hq8 h_1 h_2 h_3 h_4 h_5 h_6 h_7 h_8 h_9 h_10 h_11 h_46 h_65 h_66 h_70 h_75 h_76 h_81 h_82 h_87 h_88 h_93 h_94 h_99 h_257 h_258 h_259 h_260 h_261 h_262 h_263 h_264 h_265 h_266 h_267 h_268 h_269 h_270 h_271 h_272 h_273 h_275 hq6 hq7 h_12 h_21 h_37 h_274 h_286; omega) | omega)).trans (rfl)) ((wv_tr hU (by first | (clear ha2 hq0 hq1 hq2 hq3 hq4 hq5 hq8 h_1 h_2 h_3 h_4 h_6 h_7 h_8 h_9 h_11 h_46 h_65 h_66 h_70 h_75 h_76 h_81 h_82 h_87 h_88 h_93 h_94 h_99 h_257 h_258 h_259 h_260 h_261 h_262 h_263 h_264 h_265 h_266 h_267 h_268 h_269 h_270 h_271 h_272 h_273 h_275 h_288 h_290 hq6 hq7 h_12 h_21 h_37 h_274 h_286; omega) | omega) (by first | (clear ha2 hq0 hq1 hq2 hq3 hq4 hq8 h_1 h_2 h_3 h_4 h_5 h_6 h_7 h_8 h_9 h_10 h_11 h_65 h_66 h_70 h_75 h_76 h_81 h_82 h_87 h_88 h_93 h_94 h_99 h_257 h_258 h_259 h_260 h_261 h_262 h_263 h_264 h_265 h_266 h_267 h_268 h_269 h_270 h_271 h_272 h_273 h_275 h_288 h_290 hq6 hq7 h_12 h_21 h_37 h_274 h_286; omega) | omega) (fun j h1 h2 => ⟨(ln_in (e := e1) (a := (nx F e1 p0)) h1 h2).1, (ln_in (e := e1) (a := (nx F e1 p0)) h1 h2).2.1⟩)).trans (rfl)) (fun c_291 hI_292 hF_293 hz_294 => ?_))
                refine bk_inl ?_
                refine q_ldc_w_s rfl rfl rfl (by decide) ?_
                refine q_call rfl rfl rfl rfl (s_158_20 ?_)
                refine bk_inl ?_
                refine v_ic_ne_f (t := 94) rfl (by decide) (by first | (clear ha2 hq0 hq1 hq2 hq3 hq4 hq5 hq8 h_1 h_2 h_3 h_4 h_5 h_6 h_7 h_8 h_9 h_10 h_11 h_46 h_65 h_66 h_70 h_75 h_76 h_81 h_82 h_87 h_88 h_93 h_94 h_99 h_257 h_258 h_259 h_260 h_261 h_262 h_263 h_264 h_265 h_266 h_267 h_268 h_269 h_270 h_271 h_272 h_273 h_275 h_288 hq6 hq7 h_12 h_21 h_37 h_274 h_286; omega) | omega) ?_
                refine q_aload_n rfl rfl ?_
                refine q_iconst rfl ?_
                refine v_bip rfl (by decide) ?_
                refine v_cv rfl rfl rfl rfl (by decide) ⟨⟨rfl, rfl⟩, by decide, rfl⟩ (Nat.le_of_ble_eq_true rfl) (Nat.le_of_ble_eq_true rfl) ?_
                refine q_aload_n rfl rfl ?_
                refine q_iload_n rfl rfl ?_
                refine v_cv rfl rfl rfl rfl (by decide) ⟨⟨rfl, rfl⟩, by decide, rfl⟩ (Nat.le_of_ble_eq_true rfl) (Nat.le_of_ble_eq_true rfl) ?_
                refine q_aload_n rfl rfl ?_
                refine v_cv rfl rfl rfl rfl (by decide) ⟨⟨rfl, rfl⟩, by decide, rfl⟩ (Nat.le_of_ble_eq_true rfl) (Nat.le_of_ble_eq_true rfl) ?_
                refine q_aload_n rfl rfl ?_
                have kn_295 : Hid (c_276 41 5 = (-1)) := (hF_278 41 5 (fun h => absurd h.2 (ni rfl))).trans hro_hRt.2.1
                have kn_296 : Hid (c_281 41 5 = (-1)) := (hF_283 41 5 (fun h => absurd h.2 (ni rfl))).trans (hid kn_295)
                have kn_297 : Hid (c_291 41 5 = (-1)) := (hF_293 41 5 (fun h => absurd h.2 (ni rfl))).trans (hid kn_296)
                refine v_gi (z := 5) (v := (-1)) rfl rfl rfl (by decide) rfl rfl (hid kn_297) ?_
                refine q_iconst rfl ?_
                refine v_ic_ne_f (t := 12) rfl (by decide) (by decide) ?_
                refine q_iconst rfl ?_
                refine q_goto (t := 13) rfl (by decide) ?_
                refine v_zret rfl rfl (by decide) ?_
                refine bk_inl ?_
                refine v_if_eq_f (t := 25) rfl (by decide) (by decide) ?_
                refine q_aload_n rfl rfl ?_
                have kn_298 : Hid (c_276 41 7 = o0) := (hF_278 41 7 (fun h => absurd h.2 (ni rfl))).trans (hr_o0)
                have kn_299 : Hid (c_281 41 7 = o0) := (hF_283 41 7 (fun h => absurd h.2 (ni rfl))).trans (hid kn_298)
                have kn_300 : Hid (c_291 41 7 = o0) := (hF_293 41 7 (fun h => absurd h.2 (ni rfl))).trans (hid kn_299)
                refine v_gi (z := 7) (v := o0) rfl rfl rfl (by decide) rfl rfl (hid kn_300) ?_
                refine v_bip rfl (by decide) ?_
                refine v_ic_ne_t (t := 25) rfl (by decide) ⟨by first | (clear ha2 hq0 hq1 hq3 hq4 hq5 hq8 h_1 h_2 h_3 h_4 h_5 h_6 h_7 h_8 h_9 h_10 h_11 h_46 h_65 h_66 h_75 h_76 h_81 h_82 h_87 h_88 h_93 h_94 h_99 h_257 h_258 h_259 h_260 h_261 h_262 h_263 h_264 h_265 h_266 h_267 h_268 h_269 h_270 h_271 h_272 h_273 h_275 h_288 h_290 hq6 hq7 h_12 h_21 h_37 h_274 h_286; omega) | omega, ⟨(Int.le_trans (by decide) (rg_eq hr_o0 h_8).1), (Int.le_trans (rg_eq hr_o0 h_8).2 (by decide))⟩, by decide, by decide⟩ ?_
                refine q_aload_n rfl rfl ?_
                refine v_cv rfl rfl rfl rfl (by decide) ⟨⟨rfl, rfl⟩, by decide, rfl⟩ (Nat.le_of_ble_eq_true rfl) (Nat.le_of_ble_eq_true rfl) ?_
                refine q_aload_n rfl rfl ?_
                refine v_gi (z := 5) (v := (-1)) rfl rfl rfl (by decide) rfl rfl (hid kn_297) ?_
                refine q_iconst rfl ?_
                refine v_ic_ne_f (t := 12) rfl (by decide) (by decide) ?_
                refine q_iconst rfl ?_
                refine q_goto (t := 13) rfl (by decide) ?_
                refine v_zret rfl rfl (by decide) ?_
                refine bk_inl ?_
                refine v_if_eq_f (t := 42) rfl (by decide) (by decide) ?_
                refine q_aload_n rfl rfl ?_
                refine q_dup rfl rfl ?_
                refine v_gi (z := 4) (v := (nx F e1 p0)) rfl rfl rfl (by decide) rfl rfl (hz_294) ?_
                refine q_iload_n rfl rfl ?_
                refine v_iadd (v := (nx F e1 p0) + 5) rfl rfl ?_
                refine v_pi (z := 4) rfl rfl rfl (by decide) rfl rfl rfl (by decide) ?_
                refine q_aload_n rfl rfl ?_
                refine q_dup rfl rfl ?_
                refine v_gi (z := 7) (v := o0) rfl rfl rfl (by decide) rfl rfl ((up_n (by decide)).trans (hid kn_300)) ?_
                refine q_iconst rfl ?_
                refine v_iadd (v := o0 + 1) rfl rfl ?_
                refine v_pi (z := 7) rfl rfl rfl (by decide) rfl rfl rfl (by decide) ?_
                refine q_vret rfl rfl ?_
                refine bk_inl ?_
                refine q_aload_n rfl rfl ?_
                refine v_bip rfl (by decide) ?_
                have hI_301 := iw_41_4 (v := (nx F e1 p0) + 5) hI_292 ⟨by first | exact rgp_l (rg_be h_10 ((rg_eq hg_p0 h_5).1) ((rg_eq hg_e1 h_1).2)).1 (by decide) | omega, by first | exact rgp_h (rg_be h_10 ((rg_eq hg_p0 h_5).1) ((rg_eq hg_e1 h_1).2)).2 (by decide) | omega⟩
                have hI_302 := iw_41_7 (v := o0 + 1) hI_301 ⟨by first | exact rgp_l (rg_eq hr_o0 h_8).1 (by decide) | omega, by first | (clear ha2 hq0 hq1 hq3 hq4 hq5 hq8 h_1 h_2 h_3 h_4 h_5 h_6 h_7 h_8 h_9 h_10 h_11 h_46 h_65 h_66 h_75 h_76 h_81 h_82 h_87 h_88 h_93 h_94 h_99 h_257 h_258 h_259 h_260 h_261 h_262 h_263 h_264 h_265 h_266 h_267 h_268 h_269 h_270 h_271 h_272 h_273 h_275 h_288 h_290 hq6 hq7 h_12 h_21 h_37 h_274 h_286; omega) | omega⟩
                have kn_303 : Hid (c_62 1 1 = e1) := (hF_64 1 1 (fun q => q.elim (fun h => absurd h.2 (ni rfl)) (fun q => q.elim (fun h => absurd h.2 (ni rfl)) (fun h => absurd h.2 (ni rfl))))).trans (hid kn_39)
                have kn_304 : Hid (c_291 41 3 = e1) := (hF_293 41 3 (fun h => absurd h.2 (ni rfl))).trans (hid kn_287)
                have h_305 : c_62 1 4 = 0 := (hz_68)
                have h_306 : c_62 1 2 = (ln F e1 (nx F e1 p0)) := (hz_67)
                have h_307 : c_62 1 5 = g0 := (hz_69)
                have h_308 : (up (up c_291 41 4 ((nx F e1 p0) + 5)) 41 7 (o0 + 1)) 41 5 = (-1) := ((up_n (by decide)).trans ((up_n (by decide)).trans (hid kn_297)))
                have h_309 : (up (up c_291 41 4 ((nx F e1 p0) + 5)) 41 7 (o0 + 1)) 41 4 = (nx F e1 p0) + 5 := ((up_n (by decide)).trans (up_e rfl))
                have kn_310 : Hid (c_276 41 6 = c 41 6) := hF_278 41 6 (fun h => absurd h.2 (ni rfl))
                have kn_311 : Hid (c_281 41 6 = c 41 6) := (hF_283 41 6 (fun h => absurd h.2 (ni rfl))).trans (hid kn_310)
                have kn_312 : Hid (c_291 41 6 = c 41 6) := (hF_293 41 6 (fun h => absurd h.2 (ni rfl))).trans (hid kn_311)
                have h_313 : (up (up c_291 41 4 ((nx F e1 p0) + 5)) 41 7 (o0 + 1)) 41 6 = c 41 6 := ((up_n (by decide)).trans ((up_n (by decide)).trans (hid kn_312)))
                refine v_cv rfl rfl rfl rfl (by decide) ⟨⟨rfl, rfl⟩, by decide, rfl⟩ (Nat.le_of_ble_eq_true rfl) (Nat.le_of_ble_eq_true rfl) (L_11_3 (m := c_62) (e1 := e1) (a9 := (ln F e1 (nx F e1 p0))) (f0 := 0) (F := F) (H := H) hI_302 hI_63 hI_72 ((hid kn_303)) (((up_n (by decide)).trans ((up_n (by decide)).trans (hid kn_304)))) ((hz_67)) ((hz_68)) (fun j => ((hF_64 2 j (fun q => q.elim (fun h => absurd h.1 (nn rfl)) (fun q => q.elim (fun h => absurd h.1 (nn rfl)) (fun h => absurd h.1 (nn rfl))))).trans ((hF_36 2 j (fun h => absurd h.1 (nn rfl))).trans ((hF_26 2 j (fun h => absurd h.1 (nn rfl))).trans (hF_20 2 j (fun h => absurd h.1 (nn rfl)))))).trans (hF j)) (fun j => ((up_c (nn rfl)).trans ((up_c (nn rfl)).trans ((hF_293 43 j (fun h => absurd h.1 (nn rfl))).trans ((hF_283 43 j (fun h => absurd h.1 (nn rfl))).trans (hF_278 43 j (fun h => absurd h.1 (nn rfl))))))).trans (hH j)) hU (rt_i1 ⟨by first | (clear ha2 hq0 hq1 hq2 hq3 hq4 hq5 hq8 h_1 h_2 h_3 h_4 h_5 h_6 h_7 h_8 h_9 h_10 h_11 h_46 h_65 h_66 h_70 h_75 h_76 h_81 h_82 h_87 h_88 h_93 h_94 h_99 h_257 h_258 h_259 h_260 h_261 h_262 h_263 h_264 h_265 h_266 h_267 h_268 h_269 h_270 h_271 h_272 h_273 h_275 h_288 h_290 hq6 hq7 h_12 h_21 h_37 h_274 h_286; omega) | omega, by first | (clear ha2 hq0 hq1 hq2 hq3 hq4 hq5 hq8 h_1 h_2 h_3 h_4 h_5 h_6 h_7 h_8 h_9 h_10 h_11 h_46 h_65 h_66 h_70 h_75 h_76 h_81 h_82 h_87 h_88 h_93 h_94 h_99 h_257 h_258 h_259 h_260 h_261 h_262 h_263 h_264 h_265 h_266 h_267 h_268 h_269 h_270 h_271 h_272 h_273 h_275 h_288 h_290 hq6 hq7 h_12 h_21 h_37 h_274 h_286; omega) | omega, by first | (clear ha2 hq0 hq1 hq2 hq3 hq4 hq5 hq8 h_1 h_2 h_3 h_4 h_5 h_6 h_7 h_8 h_9 h_10 h_11 h_46 h_65 h_66 h_70 h_75 h_76 h_81 h_82 h_87 h_88 h_93 h_94 h_99 h_257 h_258 h_259 h_260 h_261 h_262 h_263 h_264 h_265 h_266 h_267 h_268 h_269 h_270 h_271 h_272 h_273 h_275 h_288 hq6 hq7 h_12 h_21 h_37 h_274 h_286; omega) | omega, by first | (clear ha2 hq0 hq2 hq3 hq4 hq5 hq8 h_1 h_2 h_3 h_4 h_5 h_6 h_7 h_8 h_9 h_10 h_11 h_46 h_65 h_66 h_70 h_75 h_76 h_81 h_82 h_87 h_88 h_93 h_94 h_99 h_257 h_258 h_259 h_260 h_261 h_262 h_263 h_264 h_265 h_266 h_267 h_268 h_269 h_270 h_271 h_272 h_273 h_275 h_288 h_290 hq6 hq7 h_12 h_21 h_37 h_274 h_286; omega) | omega⟩) hG_74 (fun c_314 hI_315 hF_316 hR_318 h_319 h_320 => ?_))
                refine bk_inl ?_
                have h_321 := ir_1_2 hI_72
                refine q_aload_n rfl rfl ?_
                have h_322 := ir_41_5 hI_315
                have h_323 := ir_1_5 hI_72
                have h_324 := ir_41_4 hI_315
                have h_325 := ir_41_6 hI_315
                have h_326 := rt_ok hR_318 (by omega)
                have hro_hR_318 := rt_ok hR_318 (by omega)
                have kn_327 : Hid (c_71 1 1 = e1) := (hF_73 1 1 (fun q => q.elim (fun h => absurd h.2 (ni rfl)) (fun q => q.elim (fun h => absurd h.2 (ni rfl)) (fun h => absurd h.2 (ni rfl))))).trans (hid kn_303)
                have kn_328 : Hid (c_314 41 3 = e1) := (hF_316 41 3 (fun q => q.elim (fun h => absurd h.2 (ni rfl)) (fun q => q.elim (fun h => absurd h.2 (ni rfl)) (fun h => absurd h.2 (ni rfl))))).trans ((up_n (by decide)).trans ((up_n (by decide)).trans (hid kn_304)))
                have kn_329 : Hid (c_18 (A + 7) 5 = n0) := (hF_20 (A + 7) 5 (fun h => absurd h.1 (np hA rfl rfl))).trans (hg_n0)
                have kn_330 : Hid (c_24 (A + 7) 5 = n0) := (hF_26 (A + 7) 5 (fun h => absurd h.1 (np hA rfl rfl))).trans (hid kn_329)
                have kn_331 : Hid (c_34 (A + 7) 5 = n0) := (hF_36 (A + 7) 5 (fun h => absurd h.1 (np hA rfl rfl))).trans (hid kn_330)
                have kn_332 : Hid (c_62 (A + 7) 5 = n0) := (hF_64 (A + 7) 5 (fun q => q.elim (fun h => absurd h.1 (np hA rfl rfl)) (fun q => q.elim (fun h => absurd h.1 (np hA rfl rfl)) (fun h => absurd h.1 (np hA rfl rfl))))).trans (hid kn_331)
                have kn_333 : Hid (c_71 (A + 7) 5 = n0) := (hF_73 (A + 7) 5 (fun q => q.elim (fun h => absurd h.1 (np hA rfl rfl)) (fun q => q.elim (fun h => absurd h.1 (np hA rfl rfl)) (fun h => absurd h.1 (np hA rfl rfl))))).trans (hid kn_332)
                have kn_334 : Hid (c_276 41 29 = n0) := (hF_278 41 29 (fun h => absurd h.2 (ni rfl))).trans (hr_n0)
                have kn_335 : Hid (c_281 41 29 = n0) := (hF_283 41 29 (fun h => absurd h.2 (ni rfl))).trans (hid kn_334)
                have kn_336 : Hid (c_291 41 29 = n0) := (hF_293 41 29 (fun h => absurd h.2 (ni rfl))).trans (hid kn_335)
                have kn_337 : Hid (c_314 41 29 = n0) := (hF_316 41 29 (fun q => q.elim (fun h => absurd h.2 (ni rfl)) (fun q => q.elim (fun h => absurd h.2 (ni rfl)) (fun h => absurd h.2 (ni rfl))))).trans ((up_n (by decide)).trans ((up_n (by decide)).trans (hid kn_336)))
                have kn_338 : Hid (c_314 41 7 = o0 + 1) := (hF_316 41 7 (fun q => q.elim (fun h => absurd h.2 (ni rfl)) (fun q => q.elim (fun h => absurd h.2 (ni rfl)) (fun h => absurd h.2 (ni rfl))))).trans (up_e rfl)
                have hA_339 : Ce n0 (c_71 (A + 9)) (c_314 50) (c_314 51) := ce_fr hr0 (fun j => (hF_73 (A + 9) j (fun q => q.elim (fun h => absurd h.1 (np hA rfl rfl)) (fun q => q.elim (fun h => absurd h.1 (np hA rfl rfl)) (fun h => absurd h.1 (np hA rfl rfl))))).trans ((hF_64 (A + 9) j (fun q => q.elim (fun h => absurd h.1 (np hA rfl rfl)) (fun q => q.elim (fun h => absurd h.1 (np hA rfl rfl)) (fun h => absurd h.1 (np hA rfl rfl))))).trans ((hF_36 (A + 9) j (fun h => absurd h.1 (np hA rfl rfl))).trans ((hF_26 (A + 9) j (fun h => absurd h.1 (np hA rfl rfl))).trans (hF_20 (A + 9) j (fun h => absurd h.1 (np hA rfl rfl))))))) (fun j => (hF_316 50 j (fun q => q.elim (fun h => absurd h.1 (nn rfl)) (fun q => q.elim (fun h => absurd h.1 (nn rfl)) (fun h => absurd h.1 (nn rfl))))).trans ((up_c (nn rfl)).trans ((up_c (nn rfl)).trans ((hF_293 50 j (fun h => absurd h.1 (nn rfl))).trans ((hF_283 50 j (fun h => absurd h.1 (nn rfl))).trans (hF_278 50 j (fun h => absurd h.1 (nn rfl)))))))) (fun j => (hF_316 51 j (fun q => q.elim (fun h => absurd h.1 (nn rfl)) (fun q => q.elim (fun h => absurd h.1 (nn rfl)) (fun h => absurd h.1 (nn rfl))))).trans ((up_c (nn rfl)).trans ((up_c (nn rfl)).trans ((hF_293 51 j (fun h => absurd h.1 (nn rfl))).trans ((hF_283 51 j (fun h => absurd h.1 (nn rfl))).trans (hF_278 51 j (fun h => absurd h.1 (nn rfl))))))))
                refine v_cv rfl rfl rfl rfl (by decide) ⟨⟨rfl, rfl⟩, by decide, rfl⟩ (Nat.le_of_ble_eq_true rfl) (Nat.le_of_ble_eq_true rfl) (H13 (m := c_71) (e1 := e1) (f0 := c_71 1 4) (g0 := c_71 1 5) (p0 := c_71 1 2) (n0 := n0) (o0 := o0 + 1) (by omega) (by omega) hI_315 hI_72 hI_78 (show 0 ≤ a2 + 1 ∧ a2 + 1 ≤ 6 from ⟨by first | exact rgp_l ha2.1 (by decide) | omega, by first | (clear ha2 hq0 hq1 hq2 hq3 hq4 hq5 hq8 h_1 h_2 h_3 h_4 h_5 h_6 h_7 h_8 h_9 h_10 h_11 h_46 h_65 h_66 h_75 h_76 h_81 h_82 h_87 h_88 h_93 h_94 h_99 h_257 h_258 h_259 h_260 h_261 h_262 h_263 h_264 h_265 h_266 h_267 h_268 h_269 h_270 h_271 h_272 h_273 h_275 h_288 h_290 h_321 h_322 h_323 h_324 h_325 h_326 hq6 hq7 h_12 h_21 h_37 h_274 h_286 h_319 h_320; omega) | omega⟩) (by first | (clear ha2 hq0 hq1 hq2 hq3 hq4 hq5 hq8 h_1 h_2 h_3 h_4 h_5 h_6 h_7 h_8 h_9 h_10 h_11 h_46 h_65 h_66 h_70 h_81 h_82 h_87 h_88 h_93 h_94 h_99 h_257 h_258 h_259 h_260 h_261 h_262 h_263 h_264 h_265 h_266 h_267 h_268 h_269 h_270 h_271 h_272 h_273 h_275 h_288 h_290 h_321 h_322 h_323 h_324 h_325 h_326 hq6 hq7 h_12 h_21 h_37 h_274 h_286 h_319 h_320; omega) | omega) (by first | (clear ha2 hq0 hq1 hq2 hq3 hq4 hq5 hq8 h_1 h_2 h_3 h_4 h_5 h_6 h_7 h_8 h_9 h_10 h_11 h_46 h_65 h_66 h_70 h_75 h_76 h_81 h_82 h_87 h_88 h_93 h_94 h_99 h_257 h_258 h_259 h_260 h_261 h_262 h_263 h_264 h_265 h_266 h_267 h_268 h_269 h_270 h_271 h_272 h_273 h_275 h_288 h_290 h_321 h_322 h_324 h_325 hq6 hq7 h_12 h_21 h_37 h_274 h_286 h_319 h_320; omega) | omega) (by first | (clear ha2 hq0 hq1 hq3 hq4 hq5 hq8 h_1 h_2 h_3 h_4 h_5 h_6 h_7 h_8 h_9 h_10 h_11 h_46 h_65 h_66 h_70 h_75 h_76 h_81 h_82 h_87 h_88 h_93 h_94 h_99 h_257 h_258 h_259 h_260 h_261 h_262 h_263 h_264 h_265 h_266 h_267 h_268 h_269 h_270 h_271 h_272 h_273 h_275 h_288 h_290 h_321 h_322 h_323 h_324 h_325 h_326 hq6 hq7 h_12 h_21 h_37 h_274 h_286 h_319 h_320; omega) | omega) (by first | (clear ha2 hq0 hq1 hq2 hq8 h_3 h_4 h_8 h_9 h_11 h_65 h_66 h_70 h_81 h_82 h_87 h_88 h_93 h_94 h_99 h_257 h_258 h_259 h_260 h_261 h_262 h_263 h_264 h_265 h_266 h_267 h_268 h_269 h_270 h_271 h_272 h_273 h_275 h_288 h_325 h_286; omega) | omega) (by first | (clear ha2 hq0 hq1 hq2 hq3 hq8 h_3 h_4 h_5 h_6 h_7 h_8 h_9 h_11 h_65 h_66 h_70 h_75 h_76 h_81 h_82 h_87 h_88 h_93 h_94 h_99 h_257 h_258 h_259 h_260 h_261 h_262 h_263 h_264 h_265 h_266 h_267 h_268 h_269 h_270 h_271 h_272 h_273 h_275 h_288 h_290 h_322 h_323 h_324 h_325 h_286 h_320; omega) | omega) (by first | (clear ha2 hq0 hq1 hq2 hq3 hq4 hq8 h_1 h_2 h_3 h_4 h_5 h_6 h_7 h_8 h_9 h_10 h_11 h_46 h_65 h_66 h_70 h_75 h_76 h_81 h_82 h_87 h_88 h_93 h_94 h_99 h_257 h_258 h_259 h_260 h_261 h_262 h_263 h_264 h_265 h_266 h_267 h_268 h_269 h_270 h_271 h_272 h_273 h_275 h_288 h_290 h_321 h_322 h_323 h_324 h_325 h_326 hq6 hq7 h_12 h_21 h_37 h_274 h_286 h_319 h_320; omega) | omega) ((hid kn_327)) ((hid kn_328)) (rfl) (rfl) (rfl) ((hid kn_333)) ((hid kn_337)) ((hid kn_338)) (fun j => ((hF_73 2 j (fun q => q.elim (fun h => absurd h.1 (nn rfl)) (fun q => q.elim (fun h => absurd h.1 (nn rfl)) (fun h => absurd h.1 (nn rfl))))).trans ((hF_64 2 j (fun q => q.elim (fun h => absurd h.1 (nn rfl)) (fun q => q.elim (fun h => absurd h.1 (nn rfl)) (fun h => absurd h.1 (nn rfl))))).trans ((hF_36 2 j (fun h => absurd h.1 (nn rfl))).trans ((hF_26 2 j (fun h => absurd h.1 (nn rfl))).trans (hF_20 2 j (fun h => absurd h.1 (nn rfl))))))).trans (hF j)) (fun j => ((hF_316 43 j (fun q => q.elim (fun h => absurd h.1 (nn rfl)) (fun q => q.elim (fun h => absurd h.1 (nn rfl)) (fun h => absurd h.1 (nn rfl))))).trans ((up_c (nn rfl)).trans ((up_c (nn rfl)).trans ((hF_293 43 j (fun h => absurd h.1 (nn rfl))).trans ((hF_283 43 j (fun h => absurd h.1 (nn rfl))).trans (hF_278 43 j (fun h => absurd h.1 (nn rfl)))))))).trans (hH j)) hU hR_318 (ce_le hA_339 (by omega)) hG_80 (fun c_340 hI_341 hF_342 hR_344 h_345 h_346 hA_347 => ?_))
                refine bk_inl ?_
                have h_348 := ir_41_29 hI_341
                have h_349 := ir_p7_5 hI_78 hA
                have h_350 := ir_1_2 hI_78
                have h_351 := ir_41_7 hI_341
                refine q_aload_n rfl rfl ?_
                refine v_bip rfl (by decide) ?_
                have h_352 := ir_41_5 hI_341
                have h_353 := ir_1_5 hI_78
                have h_354 := ir_41_4 hI_341
                have h_355 := ir_41_6 hI_341
                have h_356 := rt_ok hR_344 (by omega)
                have hro_hR_344 := rt_ok hR_344 (by omega)
                have kn_357 : Hid (c_77 1 1 = e1) := (hF_79 1 1 (fun q => q.elim (fun h => absurd h.2 (ni rfl)) (fun q => q.elim (fun h => absurd h.2 (ni rfl)) (fun q => q.elim (fun h => absurd h.2 (ni rfl)) (fun q => q.elim (fun h => absurd h.1 (pn hA rfl rfl)) (fun h => absurd h (pn hA rfl rfl))))))).trans (hid kn_327)
                have kn_358 : Hid (c_340 41 3 = e1) := (hF_342 41 3 (fun q => q.elim (fun h => absurd h.2 (ni rfl)) (fun q => q.elim (fun h => absurd h.2 (ni rfl)) (fun q => q.elim (fun h => absurd h.2 (ni rfl)) (fun q => q.elim (fun h => absurd h.2 (ni rfl)) (fun q => q.elim (fun h => absurd h.2 (ni rfl)) (fun q => q.elim (fun h => absurd h (nn rfl)) (fun h => absurd h (nn rfl))))))))).trans (hid kn_328)
                refine v_cv rfl rfl rfl rfl (by decide) ⟨⟨rfl, rfl⟩, by decide, rfl⟩ (Nat.le_of_ble_eq_true rfl) (Nat.le_of_ble_eq_true rfl) (L_11_4 (m := c_77) (e1 := e1) (a9 := c_77 1 2) (f0 := c_77 1 4) (F := F) (H := H) hI_341 hI_78 hI_84 ((hid kn_357)) ((hid kn_358)) (rfl) (rfl) (fun j => ((hF_79 2 j (fun q => q.elim (fun h => absurd h.1 (nn rfl)) (fun q => q.elim (fun h => absurd h.1 (nn rfl)) (fun q => q.elim (fun h => absurd h.1 (nn rfl)) (fun q => q.elim (fun h => absurd h.1 (pn hA rfl rfl)) (fun h => absurd h (pn hA rfl rfl))))))).trans ((hF_73 2 j (fun q => q.elim (fun h => absurd h.1 (nn rfl)) (fun q => q.elim (fun h => absurd h.1 (nn rfl)) (fun h => absurd h.1 (nn rfl))))).trans ((hF_64 2 j (fun q => q.elim (fun h => absurd h.1 (nn rfl)) (fun q => q.elim (fun h => absurd h.1 (nn rfl)) (fun h => absurd h.1 (nn rfl))))).trans ((hF_36 2 j (fun h => absurd h.1 (nn rfl))).trans ((hF_26 2 j (fun h => absurd h.1 (nn rfl))).trans (hF_20 2 j (fun h => absurd h.1 (nn rfl)))))))).trans (hF j)) (fun j => ((hF_342 43 j (fun q => q.elim (fun h => absurd h.1 (nn rfl)) (fun q => q.elim (fun h => absurd h.1 (nn rfl)) (fun q => q.elim (fun h => absurd h.1 (nn rfl)) (fun q => q.elim (fun h => absurd h.1 (nn rfl)) (fun q => q.elim (fun h => absurd h.1 (nn rfl)) (fun q => q.elim (fun h => absurd h (nn rfl)) (fun h => absurd h (nn rfl))))))))).trans ((hF_316 43 j (fun q => q.elim (fun h => absurd h.1 (nn rfl)) (fun q => q.elim (fun h => absurd h.1 (nn rfl)) (fun h => absurd h.1 (nn rfl))))).trans ((up_c (nn rfl)).trans ((up_c (nn rfl)).trans ((hF_293 43 j (fun h => absurd h.1 (nn rfl))).trans ((hF_283 43 j (fun h => absurd h.1 (nn rfl))).trans (hF_278 43 j (fun h => absurd h.1 (nn rfl))))))))).trans (hH j)) hU hR_344 hG_86 (fun c_359 hI_360 hF_361 hR_363 h_364 h_365 => ?_))
                refine bk_inl ?_
                have h_366 := ir_1_2 hI_84
                refine q_aload_n rfl rfl ?_
                have h_367 := ir_41_5 hI_360
                have h_368 := ir_1_5 hI_84
                have h_369 := ir_41_4 hI_360
                have h_370 := ir_41_6 hI_360
                have h_371 := rt_ok hR_363 (by omega)
                have hro_hR_363 := rt_ok hR_363 (by omega)
                have kn_372 : Hid (c_83 1 1 = e1) := (hF_85 1 1 (fun q => q.elim (fun h => absurd h.2 (ni rfl)) (fun q => q.elim (fun h => absurd h.2 (ni rfl)) (fun h => absurd h.2 (ni rfl))))).trans (hid kn_357)
                have kn_373 : Hid (c_359 41 3 = e1) := (hF_361 41 3 (fun q => q.elim (fun h => absurd h.2 (ni rfl)) (fun q => q.elim (fun h => absurd h.2 (ni rfl)) (fun h => absurd h.2 (ni rfl))))).trans (hid kn_358)
                have kn_374 : Hid (c_83 (A + 7) 5 = c_77 (A + 7) 5) := hF_85 (A + 7) 5 (fun q => q.elim (fun h => absurd h.1 (np hA rfl rfl)) (fun q => q.elim (fun h => absurd h.1 (np hA rfl rfl)) (fun h => absurd h.1 (np hA rfl rfl))))
                have kn_375 : Hid (c_359 41 29 = c_340 41 29) := hF_361 41 29 (fun q => q.elim (fun h => absurd h.2 (ni rfl)) (fun q => q.elim (fun h => absurd h.2 (ni rfl)) (fun h => absurd h.2 (ni rfl))))
                have kn_376 : Hid (c_359 41 7 = c_340 41 7) := hF_361 41 7 (fun q => q.elim (fun h => absurd h.2 (ni rfl)) (fun q => q.elim (fun h => absurd h.2 (ni rfl)) (fun h => absurd h.2 (ni rfl))))
                have hA_377 : Ce (c_340 41 29) (c_83 (A + 9)) (c_359 50) (c_359 51) := ce_fr (hA_347 (by omega)) (fun j => hF_85 (A + 9) j (fun q => q.elim (fun h => absurd h.1 (np hA rfl rfl)) (fun q => q.elim (fun h => absurd h.1 (np hA rfl rfl)) (fun h => absurd h.1 (np hA rfl rfl))))) (fun j => hF_361 50 j (fun q => q.elim (fun h => absurd h.1 (nn rfl)) (fun q => q.elim (fun h => absurd h.1 (nn rfl)) (fun h => absurd h.1 (nn rfl))))) (fun j => hF_361 51 j (fun q => q.elim (fun h => absurd h.1 (nn rfl)) (fun q => q.elim (fun h => absurd h.1 (nn rfl)) (fun h => absurd h.1 (nn rfl)))))
                have hA_378 : Ce (c_77 (A + 7) 5) (c_83 (A + 9)) (c_359 50) (c_359 51) := ce_le hA_377 (by omega)
                refine v_cv rfl rfl rfl rfl (by decide) ⟨⟨rfl, rfl⟩, by decide, rfl⟩ (Nat.le_of_ble_eq_true rfl) (Nat.le_of_ble_eq_true rfl) (H13 (m := c_83) (e1 := e1) (f0 := c_83 1 4) (g0 := c_83 1 5) (p0 := c_83 1 2) (n0 := c_77 (A + 7) 5) (o0 := c_340 41 7) (by omega) (by omega) hI_360 hI_84 hI_90 (show 0 ≤ a2 + 1 ∧ a2 + 1 ≤ 6 from ⟨by first | exact rgp_l ha2.1 (by decide) | omega, by first | (clear ha2 hq0 hq1 hq2 hq3 hq4 hq5 hq8 h_1 h_2 h_3 h_4 h_5 h_6 h_7 h_8 h_9 h_10 h_11 h_46 h_65 h_66 h_75 h_76 h_81 h_82 h_87 h_88 h_93 h_94 h_99 h_257 h_258 h_259 h_260 h_261 h_262 h_263 h_264 h_265 h_266 h_267 h_268 h_269 h_270 h_271 h_272 h_273 h_275 h_288 h_290 h_321 h_322 h_323 h_324 h_325 h_326 h_348 h_349 h_350 h_351 h_346 h_352 h_353 h_354 h_355 h_356 h_366 h_367 h_368 h_369 h_370 h_371 hq6 hq7 h_12 h_21 h_37 h_274 h_286 h_319 h_320 h_345 h_364 h_365; omega) | omega⟩) (by first | (clear ha2 hq0 hq1 hq2 hq3 hq4 hq5 hq8 h_1 h_2 h_3 h_4 h_5 h_6 h_7 h_8 h_9 h_10 h_11 h_46 h_65 h_66 h_70 h_75 h_76 h_81 h_82 h_93 h_94 h_99 h_257 h_258 h_259 h_260 h_261 h_262 h_263 h_264 h_265 h_266 h_267 h_268 h_269 h_270 h_271 h_272 h_273 h_275 h_288 h_290 h_321 h_322 h_323 h_324 h_325 h_326 h_348 h_349 h_350 h_351 h_346 h_352 h_353 h_354 h_355 h_356 h_366 h_367 h_368 h_369 h_370 h_371 hq6 hq7 h_12 h_21 h_37 h_274 h_286 h_319 h_320 h_345 h_364 h_365; omega) | omega) (by first | (clear ha2 hq0 hq1 hq2 hq3 hq4 hq5 hq8 h_1 h_2 h_3 h_4 h_5 h_6 h_7 h_8 h_9 h_10 h_11 h_46 h_65 h_66 h_70 h_75 h_76 h_81 h_82 h_87 h_88 h_93 h_94 h_99 h_257 h_258 h_259 h_260 h_261 h_262 h_263 h_264 h_265 h_266 h_267 h_268 h_269 h_270 h_271 h_272 h_273 h_275 h_288 h_290 h_321 h_322 h_323 h_324 h_325 h_326 h_348 h_349 h_350 h_351 h_346 h_352 h_353 h_354 h_355 h_356 h_366 h_367 h_369 h_370 hq6 hq7 h_12 h_21 h_37 h_274 h_286 h_319 h_320 h_345 h_364 h_365; omega) | omega) (by first | (clear ha2 hq0 hq1 hq2 hq3 hq4 hq5 hq8 h_1 h_2 h_3 h_4 h_5 h_6 h_7 h_8 h_9 h_10 h_11 h_46 h_65 h_66 h_70 h_75 h_76 h_81 h_82 h_87 h_88 h_93 h_94 h_99 h_257 h_258 h_259 h_260 h_261 h_262 h_263 h_264 h_265 h_266 h_267 h_268 h_269 h_270 h_271 h_272 h_273 h_275 h_288 h_290 h_321 h_322 h_323 h_324 h_325 h_326 h_348 h_349 h_350 h_351 h_352 h_353 h_354 h_355 h_356 h_366 h_367 h_368 h_369 h_370 h_371 hq6 hq7 h_12 h_21 h_37 h_274 h_286 h_319 h_320 h_345 h_364 h_365; omega) | omega) (by first | (clear ha2 hq0 hq1 hq2 hq8 h_3 h_4 h_5 h_8 h_9 h_11 h_65 h_66 h_70 h_75 h_76 h_93 h_94 h_99 h_257 h_258 h_259 h_260 h_261 h_262 h_263 h_264 h_265 h_266 h_267 h_268 h_269 h_270 h_271 h_272 h_273 h_275 h_288 h_290 h_322 h_323 h_324 h_325 h_351 h_346 h_352 h_353 h_354 h_355 h_370 h_286 h_320; omega) | omega) (by first | (clear ha2 hq0 hq1 hq2 hq3 hq8 h_3 h_4 h_5 h_6 h_7 h_8 h_9 h_11 h_65 h_66 h_70 h_75 h_76 h_81 h_82 h_87 h_88 h_93 h_94 h_99 h_257 h_258 h_259 h_260 h_261 h_262 h_263 h_264 h_265 h_266 h_267 h_268 h_269 h_270 h_271 h_272 h_273 h_275 h_288 h_290 h_321 h_322 h_323 h_324 h_325 h_326 h_348 h_349 h_350 h_351 h_346 h_352 h_353 h_354 h_355 h_356 h_367 h_368 h_369 h_370 h_286 h_320 h_365; omega) | omega) (by first | (clear ha2 hq0 hq1 hq2 hq3 hq4 hq8 h_1 h_2 h_3 h_4 h_5 h_6 h_7 h_8 h_9 h_10 h_11 h_46 h_65 h_66 h_70 h_75 h_76 h_81 h_82 h_87 h_88 h_93 h_94 h_99 h_257 h_258 h_259 h_260 h_261 h_262 h_263 h_264 h_265 h_266 h_267 h_268 h_269 h_270 h_271 h_272 h_273 h_275 h_288 h_290 h_321 h_322 h_323 h_324 h_325 h_326 h_348 h_349 h_350 h_351 h_346 h_352 h_353 h_354 h_355 h_356 h_366 h_367 h_368 h_369 h_370 h_371 hq6 hq7 h_12 h_21 h_37 h_274 h_286 h_319 h_320 h_345 h_364 h_365; omega) | omega) ((hid kn_372)) ((hid kn_373)) (rfl) (rfl) (rfl) ((hid kn_374)) (((show _ = c_340 41 29 from (hid kn_375)).trans (by omega))) ((hid kn_376)) (fun j => ((hF_85 2 j (fun q => q.elim (fun h => absurd h.1 (nn rfl)) (fun q => q.elim (fun h => absurd h.1 (nn rfl)) (fun h => absurd h.1 (nn rfl))))).trans ((hF_79 2 j (fun q => q.elim (fun h => absurd h.1 (nn rfl)) (fun q => q.elim (fun h => absurd h.1 (nn rfl)) (fun q => q.elim (fun h => absurd h.1 (nn rfl)) (fun q => q.elim (fun h => absurd h.1 (pn hA rfl rfl)) (fun h => absurd h (pn hA rfl rfl))))))).trans ((hF_73 2 j (fun q => q.elim (fun h => absurd h.1 (nn rfl)) (fun q => q.elim (fun h => absurd h.1 (nn rfl)) (fun h => absurd h.1 (nn rfl))))).trans ((hF_64 2 j (fun q => q.elim (fun h => absurd h.1 (nn rfl)) (fun q => q.elim (fun h => absurd h.1 (nn rfl)) (fun h => absurd h.1 (nn rfl))))).trans ((hF_36 2 j (fun h => absurd h.1 (nn rfl))).trans ((hF_26 2 j (fun h => absurd h.1 (nn rfl))).trans (hF_20 2 j (fun h => absurd h.1 (nn rfl))))))))).trans (hF j)) (fun j => ((hF_361 43 j (fun q => q.elim (fun h => absurd h.1 (nn rfl)) (fun q => q.elim (fun h => absurd h.1 (nn rfl)) (fun h => absurd h.1 (nn rfl))))).trans ((hF_342 43 j (fun q => q.elim (fun h => absurd h.1 (nn rfl)) (fun q => q.elim (fun h => absurd h.1 (nn rfl)) (fun q => q.elim (fun h => absurd h.1 (nn rfl)) (fun q => q.elim (fun h => absurd h.1 (nn rfl)) (fun q => q.elim (fun h => absurd h.1 (nn rfl)) (fun q => q.elim (fun h => absurd h (nn rfl)) (fun h => absurd h (nn rfl))))))))).trans ((hF_316 43 j (fun q => q.elim (fun h => absurd h.1 (nn rfl)) (fun q => q.elim (fun h => absurd h.1 (nn rfl)) (fun h => absurd h.1 (nn rfl))))).trans ((up_c (nn rfl)).trans ((up_c (nn rfl)).trans ((hF_293 43 j (fun h => absurd h.1 (nn rfl))).trans ((hF_283 43 j (fun h => absurd h.1 (nn rfl))).trans (hF_278 43 j (fun h => absurd h.1 (nn rfl)))))))))).trans (hH j)) hU hR_363 (ce_le hA_378 (by omega)) hG_92 (fun c_379 hI_380 hF_381 hR_383 h_384 h_385 hA_386 => ?_))
                refine bk_inl ?_
                have h_387 := ir_41_29 hI_380
                have h_388 := ir_1_2 hI_90
                have h_389 := ir_41_7 hI_380
                refine q_aload_n rfl rfl ?_
                refine v_bip rfl (by decide) ?_
                have h_390 := ir_41_5 hI_380
                have h_391 := ir_1_5 hI_90
                have h_392 := ir_41_4 hI_380
                have h_393 := ir_41_6 hI_380
                have h_394 := rt_ok hR_383 (by omega)
                have hro_hR_383 := rt_ok hR_383 (by omega)
                have kn_395 : Hid (c_89 1 1 = e1) := (hF_91 1 1 (fun q => q.elim (fun h => absurd h.2 (ni rfl)) (fun q => q.elim (fun h => absurd h.2 (ni rfl)) (fun q => q.elim (fun h => absurd h.2 (ni rfl)) (fun q => q.elim (fun h => absurd h.1 (pn hA rfl rfl)) (fun h => absurd h (pn hA rfl rfl))))))).trans (hid kn_372)
                have kn_396 : Hid (c_379 41 3 = e1) := (hF_381 41 3 (fun q => q.elim (fun h => absurd h.2 (ni rfl)) (fun q => q.elim (fun h => absurd h.2 (ni rfl)) (fun q => q.elim (fun h => absurd h.2 (ni rfl)) (fun q => q.elim (fun h => absurd h.2 (ni rfl)) (fun q => q.elim (fun h => absurd h.2 (ni rfl)) (fun q => q.elim (fun h => absurd h (nn rfl)) (fun h => absurd h (nn rfl))))))))).trans (hid kn_373)
                refine v_cv rfl rfl rfl rfl (by decide) ⟨⟨rfl, rfl⟩, by decide, rfl⟩ (Nat.le_of_ble_eq_true rfl) (Nat.le_of_ble_eq_true rfl) (L_11_5 (m := c_89) (e1 := e1) (a9 := c_89 1 2) (f0 := c_89 1 4) (F := F) (H := H) hI_380 hI_90 hI_96 ((hid kn_395)) ((hid kn_396)) (rfl) (rfl) (fun j => ((hF_91 2 j (fun q => q.elim (fun h => absurd h.1 (nn rfl)) (fun q => q.elim (fun h => absurd h.1 (nn rfl)) (fun q => q.elim (fun h => absurd h.1 (nn rfl)) (fun q => q.elim (fun h => absurd h.1 (pn hA rfl rfl)) (fun h => absurd h (pn hA rfl rfl))))))).trans ((hF_85 2 j (fun q => q.elim (fun h => absurd h.1 (nn rfl)) (fun q => q.elim (fun h => absurd h.1 (nn rfl)) (fun h => absurd h.1 (nn rfl))))).trans ((hF_79 2 j (fun q => q.elim (fun h => absurd h.1 (nn rfl)) (fun q => q.elim (fun h => absurd h.1 (nn rfl)) (fun q => q.elim (fun h => absurd h.1 (nn rfl)) (fun q => q.elim (fun h => absurd h.1 (pn hA rfl rfl)) (fun h => absurd h (pn hA rfl rfl))))))).trans ((hF_73 2 j (fun q => q.elim (fun h => absurd h.1 (nn rfl)) (fun q => q.elim (fun h => absurd h.1 (nn rfl)) (fun h => absurd h.1 (nn rfl))))).trans ((hF_64 2 j (fun q => q.elim (fun h => absurd h.1 (nn rfl)) (fun q => q.elim (fun h => absurd h.1 (nn rfl)) (fun h => absurd h.1 (nn rfl))))).trans ((hF_36 2 j (fun h => absurd h.1 (nn rfl))).trans ((hF_26 2 j (fun h => absurd h.1 (nn rfl))).trans (hF_20 2 j (fun h => absurd h.1 (nn rfl)))))))))).trans (hF j)) (fun j => ((hF_381 43 j (fun q => q.elim (fun h => absurd h.1 (nn rfl)) (fun q => q.elim (fun h => absurd h.1 (nn rfl)) (fun q => q.elim (fun h => absurd h.1 (nn rfl)) (fun q => q.elim (fun h => absurd h.1 (nn rfl)) (fun q => q.elim (fun h => absurd h.1 (nn rfl)) (fun q => q.elim (fun h => absurd h (nn rfl)) (fun h => absurd h (nn rfl))))))))).trans ((hF_361 43 j (fun q => q.elim (fun h => absurd h.1 (nn rfl)) (fun q => q.elim (fun h => absurd h.1 (nn rfl)) (fun h => absurd h.1 (nn rfl))))).trans ((hF_342 43 j (fun q => q.elim (fun h => absurd h.1 (nn rfl)) (fun q => q.elim (fun h => absurd h.1 (nn rfl)) (fun q => q.elim (fun h => absurd h.1 (nn rfl)) (fun q => q.elim (fun h => absurd h.1 (nn rfl)) (fun q => q.elim (fun h => absurd h.1 (nn rfl)) (fun q => q.elim (fun h => absurd h (nn rfl)) (fun h => absurd h (nn rfl))))))))).trans ((hF_316 43 j (fun q => q.elim (fun h => absurd h.1 (nn rfl)) (fun q => q.elim (fun h => absurd h.1 (nn rfl)) (fun h => absurd h.1 (nn rfl))))).trans ((up_c (nn rfl)).trans ((up_c (nn rfl)).trans ((hF_293 43 j (fun h => absurd h.1 (nn rfl))).trans ((hF_283 43 j (fun h => absurd h.1 (nn rfl))).trans (hF_278 43 j (fun h => absurd h.1 (nn rfl))))))))))).trans (hH j)) hU hR_383 hG_98 (fun c_397 hI_398 hF_399 hR_401 h_402 h_403 => ?_))
                refine bk_inl ?_
                refine q_aload_n rfl rfl ?_
                refine q_dup rfl rfl ?_
                have kn_404 : Hid (c_397 41 7 = c_379 41 7) := hF_399 41 7 (fun q => q.elim (fun h => absurd h.2 (ni rfl)) (fun q => q.elim (fun h => absurd h.2 (ni rfl)) (fun h => absurd h.2 (ni rfl))))
                refine v_gi (z := 7) (v := c_379 41 7) rfl rfl rfl (by decide) rfl rfl (hid kn_404) ?_
                refine q_iconst rfl ?_
                refine v_isub (v := c_379 41 7 - 1) rfl rfl ?_
                refine v_pi (z := 7) rfl rfl rfl (by decide) rfl rfl rfl (by decide) ?_
                refine q_aload_n rfl rfl ?_
                refine q_iload_n rfl rfl ?_
                refine q_iconst rfl ?_
                refine v_cv rfl rfl rfl rfl (by decide) ⟨⟨rfl, rfl⟩, by decide, rfl⟩ (Nat.le_of_ble_eq_true rfl) (Nat.le_of_ble_eq_true rfl) ?_
                refine q_aload_n rfl rfl ?_
                refine v_cv rfl rfl rfl rfl (by decide) ⟨⟨rfl, rfl⟩, by decide, rfl⟩ (Nat.le_of_ble_eq_true rfl) (Nat.le_of_ble_eq_true rfl) ?_
                refine q_aload_n rfl rfl ?_
                have h_405 := ir_41_5 hI_398
                have h_406 := ir_41_4 hI_398
                have h_407 := ir_41_6 hI_398
                have h_408 := rt_or hR_401
                refine v_gi (z := 5) (v := c_397 41 5) rfl rfl rfl (by decide) rfl rfl (up_n (by decide)) ?_
                refine q_iconst rfl ?_
                by_cases h_409 : c_397 41 5 ≠ (-1)
                · refine v_ic_ne_t (t := 12) rfl (by decide) ⟨h_409, ⟨(Int.le_trans (by decide) h_405.1), (Int.le_trans h_405.2 (by decide))⟩, by decide, by decide⟩ ?_
                  refine q_iconst rfl ?_
                  refine v_zret rfl rfl (by decide) ?_
                  refine bk_inl ?_
                  refine v_if_ne_f (t := 8) rfl (by decide) (by decide) ?_
                  refine q_vret rfl rfl ?_
                  refine bk_inl ?_
                  refine q_vret rfl rfl ?_
                  refine bk_inl ?_
                  refine q_goto (t := 154) rfl (by decide) ?_
                  refine q_vret rfl rfl ?_
                  have hI_410 := iw_41_7 (v := c_379 41 7 - 1) hI_398 ⟨by first | (clear hq0 hq1 hq2 hq3 hq4 hq5 hq8 h_1 h_2 h_3 h_4 h_5 h_6 h_7 h_8 h_9 h_10 h_11 h_46 h_65 h_66 h_70 h_75 h_76 h_81 h_82 h_87 h_88 h_93 h_94 h_99 h_257 h_258 h_259 h_260 h_261 h_262 h_263 h_264 h_265 h_266 h_267 h_268 h_269 h_270 h_271 h_272 h_273 h_275 h_288 h_290 h_321 h_322 h_323 h_324 h_325 h_326 h_348 h_349 h_350 h_351 h_346 h_352 h_353 h_354 h_355 h_356 h_366 h_367 h_368 h_369 h_370 h_371 h_387 h_388 h_389 h_390 h_391 h_392 h_393 h_394 h_405 h_406 h_407 hq6 hq7 h_12 h_21 h_37 h_274 h_286 h_319 h_320 h_345 h_364 h_365 h_384 h_402 h_403 h_408 h_409; omega) | omega, by first | exact rgm_h h_389.2 (by decide) | omega⟩
                  have hrb_hR_401 := rt_bad hR_401 (by omega)
                  have h_411 : (up c_397 41 7 (c_379 41 7 - 1)) 41 5 = c_95 1 5 := (((up_n (by decide))).trans (hrb_hR_401.2.1))
                  have h_412 : (up c_397 41 7 (c_379 41 7 - 1)) 41 4 = c_397 41 4 := (up_n (by decide))
                  have h_413 : (up c_397 41 7 (c_379 41 7 - 1)) 41 6 = c_95 1 4 := (((up_n (by decide))).trans (hrb_hR_401.2.2.2))
                  have kn_414 : Hid (c_397 41 29 = c_379 41 29) := hF_399 41 29 (fun q => q.elim (fun h => absurd h.2 (ni rfl)) (fun q => q.elim (fun h => absurd h.2 (ni rfl)) (fun h => absurd h.2 (ni rfl))))
                  have h_415 : (up c_397 41 7 (c_379 41 7 - 1)) 41 29 = c_379 41 29 := ((up_n (by decide)).trans (hid kn_414))
                  have h_416 : (up c_397 41 7 (c_379 41 7 - 1)) 41 7 = c_379 41 7 - 1 := (up_e rfl)
                  have h_417 : (up c_397 41 7 (c_379 41 7 - 1)) 41 29 = c_379 41 29 := ((up_n (by decide)).trans (hid kn_414))
                  exact K (up c_397 41 7 (c_379 41 7 - 1))  hI_410 (fun a j hm => (up_b (Decidable.or_iff_not_imp_left.mpr (fun h1 h2 => hm (Or.inr (Or.inr (Or.inr (Or.inl ⟨Decidable.not_not.mp h1, h2⟩))))))).trans ((hF_399 a j (fun q => q.elim (fun h => hm (Or.inl h)) (fun q => q.elim (fun h => hm (Or.inr (Or.inl h))) (fun h => hm (Or.inr (Or.inr (Or.inl h))))))).trans ((hF_381 a j (fun q => q.elim (fun h => hm (Or.inl h)) (fun q => q.elim (fun h => hm (Or.inr (Or.inl h))) (fun q => q.elim (fun h => hm (Or.inr (Or.inr (Or.inl h)))) (fun q => q.elim (fun h => hm (Or.inr (Or.inr (Or.inr (Or.inl h))))) (fun q => q.elim (fun h => hm (Or.inr (Or.inr (Or.inr (Or.inr (Or.inl h)))))) (fun q => q.elim (fun h => hm (Or.inr (Or.inr (Or.inr (Or.inr (Or.inr (Or.inl h))))))) (fun h => hm (Or.inr (Or.inr (Or.inr (Or.inr (Or.inr (Or.inr h)))))))))))))).trans ((hF_361 a j (fun q => q.elim (fun h => hm (Or.inl h)) (fun q => q.elim (fun h => hm (Or.inr (Or.inl h))) (fun h => hm (Or.inr (Or.inr (Or.inl h))))))).trans ((hF_342 a j (fun q => q.elim (fun h => hm (Or.inl h)) (fun q => q.elim (fun h => hm (Or.inr (Or.inl h))) (fun q => q.elim (fun h => hm (Or.inr (Or.inr (Or.inl h)))) (fun q => q.elim (fun h => hm (Or.inr (Or.inr (Or.inr (Or.inl h))))) (fun q => q.elim (fun h => hm (Or.inr (Or.inr (Or.inr (Or.inr (Or.inl h)))))) (fun q => q.elim (fun h => hm (Or.inr (Or.inr (Or.inr (Or.inr (Or.inr (Or.inl h))))))) (fun h => hm (Or.inr (Or.inr (Or.inr (Or.inr (Or.inr (Or.inr h)))))))))))))).trans ((hF_316 a j (fun q => q.elim (fun h => hm (Or.inl h)) (fun q => q.elim (fun h => hm (Or.inr (Or.inl h))) (fun h => hm (Or.inr (Or.inr (Or.inl h))))))).trans ((up_b (Decidable.or_iff_not_imp_left.mpr (fun h1 h2 => hm (Or.inr (Or.inr (Or.inr (Or.inl ⟨Decidable.not_not.mp h1, h2⟩))))))).trans ((up_b (Decidable.or_iff_not_imp_left.mpr (fun h1 h2 => hm (Or.inl ⟨Decidable.not_not.mp h1, h2⟩)))).trans ((hF_293 a j (fun h => hm (Or.inl h))).trans ((hF_283 a j (fun h => hm (Or.inl h))).trans (hF_278 a j (fun h => hm (Or.inl h))))))))))))) (rt_i2 ⟨⟨by first | (clear ha2 hq0 hq1 hq2 hq3 hq8 h_3 h_4 h_5 h_6 h_7 h_8 h_9 h_11 h_65 h_66 h_70 h_75 h_76 h_81 h_82 h_87 h_88 h_99 h_261 h_264 h_266 h_267 h_268 h_269 h_270 h_271 h_272 h_273 h_275 h_288 h_290 h_321 h_322 h_323 h_324 h_325 h_326 h_348 h_349 h_350 h_351 h_346 h_352 h_353 h_354 h_355 h_356 h_366 h_367 h_368 h_369 h_370 h_371 h_387 h_389 h_385 h_390 h_391 h_392 h_393 h_286 h_320 h_365; omega) | omega, by first | (clear ha2 hq0 hq1 hq2 hq3 hq4 hq5 hq8 h_1 h_2 h_3 h_4 h_5 h_6 h_7 h_8 h_9 h_10 h_11 h_46 h_65 h_66 h_70 h_75 h_76 h_81 h_82 h_87 h_88 h_93 h_94 h_99 h_257 h_259 h_260 h_261 h_262 h_263 h_264 h_265 h_266 h_267 h_268 h_269 h_270 h_271 h_272 h_273 h_275 h_288 h_290 h_321 h_322 h_323 h_324 h_325 h_326 h_348 h_349 h_350 h_351 h_346 h_352 h_353 h_354 h_355 h_356 h_366 h_367 h_368 h_369 h_370 h_371 h_387 h_388 h_389 h_385 h_390 h_391 h_392 h_393 h_394 h_405 h_406 h_407 hq6 hq7 h_12 h_21 h_37 h_274 h_286 h_319 h_320 h_345 h_364 h_365 h_384 h_402 h_403 h_408 h_409; omega) | omega⟩, by first | (clear ha2 hq0 hq1 hq2 hq3 hq4 hq5 hq8 h_1 h_2 h_3 h_4 h_5 h_6 h_7 h_8 h_9 h_10 h_11 h_46 h_65 h_66 h_70 h_75 h_76 h_81 h_82 h_87 h_88 h_93 h_94 h_99 h_257 h_258 h_259 h_260 h_261 h_262 h_263 h_264 h_266 h_267 h_268 h_269 h_270 h_271 h_272 h_273 h_275 h_288 h_290 h_321 h_322 h_323 h_324 h_325 h_326 h_348 h_349 h_350 h_351 h_346 h_352 h_353 h_354 h_355 h_356 h_366 h_367 h_368 h_369 h_370 h_371 h_387 h_388 h_389 h_385 h_390 h_391 h_392 h_393 h_394 h_405 h_406 h_407 hq6 hq7 h_12 h_21 h_37 h_274 h_286 h_319 h_320 h_345 h_364 h_365 h_384 h_402 h_403 h_408 h_409; omega) | omega, by first | (clear ha2 hq0 hq1 hq2 hq3 hq4 hq5 hq8 h_1 h_2 h_3 h_4 h_5 h_6 h_7 h_8 h_9 h_10 h_11 h_46 h_65 h_66 h_70 h_75 h_76 h_81 h_82 h_87 h_88 h_93 h_94 h_99 h_258 h_261 h_266 h_267 h_268 h_269 h_270 h_271 h_272 h_273 h_275 h_288 h_290 h_321 h_322 h_323 h_324 h_325 h_326 h_348 h_349 h_350 h_351 h_346 h_352 h_353 h_354 h_355 h_356 h_366 h_367 h_368 h_369 h_370 h_371 h_387 h_388 h_389 h_385 h_390 h_391 h_392 h_393 h_394 hq6 hq7 h_12 h_21 h_37 h_274 h_286 h_319 h_320 h_345 h_364 h_365 h_384; omega) | omega, by first | (clear ha2 hq0 hq1 hq2 hq3 hq4 hq5 hq8 h_1 h_2 h_3 h_4 h_5 h_6 h_7 h_8 h_9 h_10 h_11 h_46 h_65 h_66 h_70 h_75 h_76 h_81 h_82 h_87 h_88 h_93 h_94 h_99 h_257 h_258 h_260 h_261 h_262 h_263 h_264 h_265 h_266 h_267 h_268 h_269 h_270 h_271 h_272 h_273 h_275 h_288 h_290 h_321 h_322 h_323 h_324 h_325 h_326 h_348 h_349 h_350 h_351 h_346 h_352 h_353 h_354 h_355 h_356 h_366 h_367 h_368 h_369 h_370 h_371 h_387 h_388 h_389 h_385 h_390 h_391 h_392 h_393 h_394 h_405 h_406 h_407 hq6 hq7 h_12 h_21 h_37 h_274 h_286 h_319 h_320 h_345 h_364 h_365 h_384 h_402 h_403 h_408 h_409; omega) | omega⟩) (Or.inr (Or.inl (by first | (clear ha2 hq0 hq1 hq2 hq3 hq8 h_3 h_4 h_5 h_6 h_7 h_8 h_9 h_11 h_65 h_66 h_70 h_75 h_76 h_81 h_82 h_87 h_88 h_99 h_261 h_264 h_266 h_267 h_268 h_269 h_270 h_271 h_272 h_273 h_275 h_288 h_290 h_321 h_322 h_323 h_324 h_325 h_326 h_348 h_349 h_350 h_351 h_346 h_352 h_353 h_354 h_355 h_356 h_366 h_367 h_368 h_369 h_370 h_371 h_387 h_389 h_385 h_390 h_391 h_392 h_393 h_286 h_320 h_365; omega) | omega))) (by first | (clear ha2 hq0 hq1 hq2 hq3 hq4 hq5 hq8 h_1 h_2 h_3 h_4 h_5 h_6 h_7 h_8 h_9 h_10 h_11 h_46 h_65 h_66 h_70 h_75 h_76 h_81 h_82 h_87 h_88 h_93 h_94 h_99 h_257 h_258 h_259 h_260 h_261 h_262 h_263 h_264 h_265 h_266 h_267 h_268 h_269 h_270 h_271 h_272 h_273 h_275 h_288 h_290 h_321 h_322 h_323 h_324 h_325 h_326 h_348 h_349 h_350 h_351 h_346 h_352 h_353 h_354 h_355 h_356 h_366 h_367 h_368 h_369 h_370 h_371 h_387 h_388 h_389 h_390 h_391 h_392 h_393 h_394 h_405 h_406 h_407 hq6 hq7 h_12 h_21 h_37 h_274 h_286 h_319 h_320 h_345 h_364 h_365 h_384 h_402 h_403 h_408 h_409; omega) | omega) (fun hz => absurd hz (by omega))
                · refine v_ic_ne_f (t := 12) rfl (by decide) (Decidable.not_not.mp h_409) ?_
                  refine q_iconst rfl ?_
                  refine q_goto (t := 13) rfl (by decide) ?_
                  refine v_zret rfl rfl (by decide) ?_
                  refine bk_inl ?_
                  refine v_if_ne_t (t := 8) rfl (by decide) (by decide) ?_
                  refine q_aload_n rfl rfl ?_
                  refine v_gr (t := 50) rfl rfl rfl (by decide) rfl ?_
                  refine q_aload_n rfl rfl ?_
                  have kn_418 : Hid (c_397 41 29 = c_379 41 29) := hF_399 41 29 (fun q => q.elim (fun h => absurd h.2 (ni rfl)) (fun q => q.elim (fun h => absurd h.2 (ni rfl)) (fun h => absurd h.2 (ni rfl))))
                  refine v_gi (z := 29) (v := c_379 41 29) rfl rfl rfl (by decide) rfl rfl ((up_n (by decide)).trans (hid kn_418)) ?_
                  refine q_iload_n rfl rfl ?_
                  refine v_is rfl rfl (by decide) (by decide) (by omega) ?_
                  refine q_aload_n rfl rfl ?_
                  refine v_gr (t := 51) rfl rfl rfl (by decide) rfl ?_
                  refine q_aload_n rfl rfl ?_
                  refine v_gi (z := 29) (v := c_379 41 29) rfl rfl rfl (by decide) rfl rfl ((up_c (nn rfl)).trans ((up_n (by decide)).trans (hid kn_418))) ?_
                  refine q_iload_n rfl rfl ?_
                  refine v_is rfl rfl (by decide) (by decide) (by omega) ?_
                  refine q_aload_n rfl rfl ?_
                  refine q_dup rfl rfl ?_
                  refine v_gi (z := 29) (v := c_379 41 29) rfl rfl rfl (by decide) rfl rfl ((up_c (nn rfl)).trans ((up_c (nn rfl)).trans ((up_n (by decide)).trans (hid kn_418)))) ?_
                  refine q_iconst rfl ?_
                  refine v_iadd (v := c_379 41 29 + 1) rfl rfl ?_
                  refine v_pi (z := 29) rfl rfl rfl (by decide) rfl rfl rfl (by decide) ?_
                  refine q_vret rfl rfl ?_
                  refine bk_inl ?_
                  refine q_vret rfl rfl ?_
                  refine bk_inl ?_
                  refine q_goto (t := 154) rfl (by decide) ?_
                  refine q_vret rfl rfl ?_
                  have hI_419 := iw_41_7 (v := c_379 41 7 - 1) hI_398 ⟨by first | (clear hq0 hq1 hq2 hq3 hq4 hq5 hq8 h_1 h_2 h_3 h_4 h_5 h_6 h_7 h_8 h_9 h_10 h_11 h_46 h_65 h_66 h_70 h_75 h_76 h_81 h_82 h_87 h_88 h_93 h_94 h_99 h_257 h_258 h_259 h_260 h_261 h_262 h_263 h_264 h_265 h_266 h_267 h_268 h_269 h_270 h_271 h_272 h_273 h_275 h_288 h_290 h_321 h_322 h_323 h_324 h_325 h_326 h_348 h_349 h_350 h_351 h_346 h_352 h_353 h_354 h_355 h_356 h_366 h_367 h_368 h_369 h_370 h_371 h_387 h_388 h_389 h_390 h_391 h_392 h_393 h_394 h_405 h_406 h_407 hq6 hq7 h_12 h_21 h_37 h_274 h_286 h_319 h_320 h_345 h_364 h_365 h_384 h_402 h_403 h_408; omega) | omega, by first | exact rgm_h h_389.2 (by decide) | omega⟩
                  have hI_420 := iw_50 (j := c_379 41 29) (v := 6) hI_419 ⟨by decide, by decide⟩
                  have hI_421 := iw_51 (j := c_379 41 29) (v := 0) hI_420 ⟨by decide, by decide⟩
                  have hI_422 := iw_41_29 (v := c_379 41 29 + 1) hI_421 ⟨by first | exact rgp_l h_387.1 (by decide) | omega, by first | (clear ha2 hq0 hq1 hq2 hq3 hq8 h_3 h_4 h_5 h_6 h_7 h_8 h_9 h_11 h_65 h_66 h_70 h_75 h_76 h_81 h_82 h_87 h_88 h_257 h_258 h_259 h_260 h_261 h_262 h_263 h_264 h_265 h_266 h_268 h_269 h_270 h_271 h_272 h_273 h_275 h_288 h_290 h_321 h_322 h_323 h_324 h_325 h_326 h_348 h_350 h_351 h_346 h_352 h_353 h_354 h_355 h_356 h_367 h_368 h_369 h_370 h_389 h_385 h_390 h_391 h_392 h_393 h_405 h_406 h_407 h_286 h_320 h_365 h_408; omega) | omega⟩
                  have hro_hR_401 := rt_ok hR_401 (by omega)
                  have h_423 : (up (up (up (up c_397 41 7 (c_379 41 7 - 1)) 50 (c_379 41 29) 6) 51 (c_379 41 29) 0) 41 29 (c_379 41 29 + 1)) 41 5 = (-1) := ((((up_n (by decide)).trans ((up_c (nn rfl)).trans ((up_c (nn rfl)).trans (up_n (by decide)))))).trans (hro_hR_401.2.1))
                  have h_424 : (up (up (up (up c_397 41 7 (c_379 41 7 - 1)) 50 (c_379 41 29) 6) 51 (c_379 41 29) 0) 41 29 (c_379 41 29 + 1)) 41 4 = c_95 1 2 := ((((up_n (by decide)).trans ((up_c (nn rfl)).trans ((up_c (nn rfl)).trans (up_n (by decide)))))).trans (hro_hR_401.2.2.1))
                  have h_425 : (up (up (up (up c_397 41 7 (c_379 41 7 - 1)) 50 (c_379 41 29) 6) 51 (c_379 41 29) 0) 41 29 (c_379 41 29 + 1)) 41 6 = c_397 41 6 := ((up_n (by decide)).trans ((up_c (nn rfl)).trans ((up_c (nn rfl)).trans (up_n (by decide)))))
                  have h_426 : (up (up (up (up c_397 41 7 (c_379 41 7 - 1)) 50 (c_379 41 29) 6) 51 (c_379 41 29) 0) 41 29 (c_379 41 29 + 1)) 41 29 = c_379 41 29 + 1 := (up_e rfl)
                  have h_427 : (up (up (up (up c_397 41 7 (c_379 41 7 - 1)) 50 (c_379 41 29) 6) 51 (c_379 41 29) 0) 41 29 (c_379 41 29 + 1)) 41 7 = c_379 41 7 - 1 := ((up_n (by decide)).trans ((up_c (nn rfl)).trans ((up_c (nn rfl)).trans (up_e rfl))))
                  have h_428 : (up (up (up (up c_397 41 7 (c_379 41 7 - 1)) 50 (c_379 41 29) 6) 51 (c_379 41 29) 0) 41 29 (c_379 41 29 + 1)) 41 29 = c_379 41 29 + 1 := (up_e rfl)
                  have hA_429 : Ce (c_379 41 29 + 1) ((up (up c_95 (A + 9) (c_89 (A + 7) 5) ((wd1_0 F (nx F e1 p0) (ln F e1 (nx F e1 p0))) + 1997)) (A + 7) 5 (c_89 (A + 7) 5 + 1)) (A + 9)) ((up (up (up (up c_397 41 7 (c_379 41 7 - 1)) 50 (c_379 41 29) 6) 51 (c_379 41 29) 0) 41 29 (c_379 41 29 + 1)) 50) ((up (up (up (up c_397 41 7 (c_379 41 7 - 1)) 50 (c_379 41 29) 6) 51 (c_379 41 29) 0) 41 29 (c_379 41 29 + 1)) 51) := ce_w (i := c_89 (A + 7) 5) (v := (wd1_0 F (nx F e1 p0) (ln F e1 (nx F e1 p0))) + 1997) (w := 6) (o := 0) (hA_386 (by omega)) (by omega) ((up_c (pp rfl)).trans (up_e rfl)) ((up_c (nn rfl)).trans ((up_c (nn rfl)).trans (up_e (by omega)))) ((up_c (nn rfl)).trans (up_e (by omega))) (fun j hj => (up_c (pp rfl)).trans ((up_n hj).trans (hF_97 (A + 9) j (fun q => q.elim (fun h => absurd h.1 (np hA rfl rfl)) (fun q => q.elim (fun h => absurd h.1 (np hA rfl rfl)) (fun h => absurd h.1 (np hA rfl rfl))))))) (fun j hj => (up_c (nn rfl)).trans ((up_c (nn rfl)).trans ((up_n (by omega)).trans ((up_c (nn rfl)).trans (hF_399 50 j (fun q => q.elim (fun h => absurd h.1 (nn rfl)) (fun q => q.elim (fun h => absurd h.1 (nn rfl)) (fun h => absurd h.1 (nn rfl))))))))) (fun j hj => (up_c (nn rfl)).trans ((up_n (by omega)).trans ((up_c (nn rfl)).trans ((up_c (nn rfl)).trans (hF_399 51 j (fun q => q.elim (fun h => absurd h.1 (nn rfl)) (fun q => q.elim (fun h => absurd h.1 (nn rfl)) (fun h => absurd h.1 (nn rfl))))))))) (cr_i4 ⟨by first | (clear ha2 hq0 hq1 hq2 hq3 hq4 hq5 h_1 h_2 h_3 h_4 h_5 h_6 h_7 h_8 h_9 h_10 h_11 h_46 h_65 h_66 h_70 h_75 h_76 h_81 h_82 h_87 h_88 h_93 h_94 h_99 h_257 h_258 h_259 h_260 h_261 h_262 h_263 h_264 h_265 h_266 h_267 h_268 h_269 h_270 h_271 h_272 h_273 h_275 h_288 h_290 h_321 h_322 h_323 h_324 h_325 h_326 h_348 h_349 h_350 h_351 h_346 h_352 h_353 h_354 h_355 h_356 h_366 h_367 h_368 h_369 h_370 h_371 h_387 h_388 h_389 h_385 h_390 h_391 h_392 h_393 h_394 h_405 h_406 h_407 hq6 hq7 h_12 h_21 h_37 h_274 h_286 h_319 h_320 h_345 h_364 h_365 h_384 h_402 h_403 h_408; omega) | omega, by first | (clear ha2 hq0 hq1 hq2 hq3 hq4 hq5 h_1 h_2 h_3 h_4 h_5 h_6 h_7 h_8 h_9 h_10 h_11 h_46 h_65 h_66 h_70 h_75 h_76 h_81 h_82 h_87 h_88 h_93 h_94 h_99 h_257 h_258 h_259 h_260 h_261 h_262 h_263 h_264 h_265 h_266 h_267 h_268 h_269 h_270 h_271 h_272 h_273 h_275 h_288 h_290 h_321 h_322 h_323 h_324 h_325 h_326 h_348 h_349 h_350 h_351 h_346 h_352 h_353 h_354 h_355 h_356 h_366 h_367 h_368 h_369 h_370 h_371 h_387 h_388 h_389 h_385 h_390 h_391 h_392 h_393 h_394 h_405 h_406 h_407 hq6 hq7 h_12 h_21 h_37 h_274 h_286 h_319 h_320 h_345 h_364 h_365 h_384 h_402 h_403 h_408; omega) | omega, by first | (clear ha2 hq0 hq1 hq2 hq3 hq4 hq5 h_1 h_2 h_3 h_4 h_5 h_6 h_7 h_8 h_9 h_10 h_11 h_46 h_65 h_66 h_70 h_75 h_76 h_81 h_82 h_87 h_88 h_93 h_94 h_99 h_257 h_258 h_259 h_260 h_261 h_262 h_263 h_264 h_265 h_266 h_267 h_268 h_269 h_270 h_271 h_272 h_273 h_275 h_288 h_290 h_321 h_322 h_323 h_324 h_325 h_326 h_348 h_349 h_350 h_351 h_346 h_352 h_353 h_354 h_355 h_356 h_366 h_367 h_368 h_369 h_370 h_371 h_387 h_388 h_389 h_385 h_390 h_391 h_392 h_393 h_394 h_405 h_406 h_407 hq6 hq7 h_12 h_21 h_37 h_274 h_286 h_319 h_320 h_345 h_364 h_365 h_384 h_402 h_403 h_408; omega) | omega, by decide⟩)
                  have hA_430 : Ce (c_379 41 29 + 1) (m9 (A + 9)) ((up (up (up (up c_397 41 7 (c_379 41 7 - 1)) 50 (c_379 41 29) 6) 51 (c_379 41 29) 0) 41 29 (c_379 41 29 + 1)) 50) ((up (up (up (up c_397 41 7 (c_379 41 7 - 1)) 50 (c_379 41 29) 6) 51 (c_379 41 29) 0) 41 29 (c_379 41 29 + 1)) 51) := ce_l hA_429 (fun j h1 h2 => wd_av hW (ck_p9 hA) (ck_p9 hA) (by decide) (a68 hA rfl) ⟨h1, by omega⟩ rfl (ir_p9 hI_255 hA j) (ir_p9 hJ9 hA j))
                  exact K (up (up (up (up c_397 41 7 (c_379 41 7 - 1)) 50 (c_379 41 29) 6) 51 (c_379 41 29) 0) 41 29 (c_379 41 29 + 1))  hI_422 (fun a j hm => (up_b (Decidable.or_iff_not_imp_left.mpr (fun h1 h2 => hm (Or.inr (Or.inr (Or.inr (Or.inr (Or.inl ⟨Decidable.not_not.mp h1, h2⟩)))))))).trans ((up_b (Decidable.or_iff_not_imp_left.mpr (fun h1 h2 => hm (Or.inr (Or.inr (Or.inr (Or.inr (Or.inr (Or.inr (Decidable.not_not.mp h1)))))))))).trans ((up_b (Decidable.or_iff_not_imp_left.mpr (fun h1 h2 => hm (Or.inr (Or.inr (Or.inr (Or.inr (Or.inr (Or.inl (Decidable.not_not.mp h1)))))))))).trans ((up_b (Decidable.or_iff_not_imp_left.mpr (fun h1 h2 => hm (Or.inr (Or.inr (Or.inr (Or.inl ⟨Decidable.not_not.mp h1, h2⟩))))))).trans ((hF_399 a j (fun q => q.elim (fun h => hm (Or.inl h)) (fun q => q.elim (fun h => hm (Or.inr (Or.inl h))) (fun h => hm (Or.inr (Or.inr (Or.inl h))))))).trans ((hF_381 a j (fun q => q.elim (fun h => hm (Or.inl h)) (fun q => q.elim (fun h => hm (Or.inr (Or.inl h))) (fun q => q.elim (fun h => hm (Or.inr (Or.inr (Or.inl h)))) (fun q => q.elim (fun h => hm (Or.inr (Or.inr (Or.inr (Or.inl h))))) (fun q => q.elim (fun h => hm (Or.inr (Or.inr (Or.inr (Or.inr (Or.inl h)))))) (fun q => q.elim (fun h => hm (Or.inr (Or.inr (Or.inr (Or.inr (Or.inr (Or.inl h))))))) (fun h => hm (Or.inr (Or.inr (Or.inr (Or.inr (Or.inr (Or.inr h)))))))))))))).trans ((hF_361 a j (fun q => q.elim (fun h => hm (Or.inl h)) (fun q => q.elim (fun h => hm (Or.inr (Or.inl h))) (fun h => hm (Or.inr (Or.inr (Or.inl h))))))).trans ((hF_342 a j (fun q => q.elim (fun h => hm (Or.inl h)) (fun q => q.elim (fun h => hm (Or.inr (Or.inl h))) (fun q => q.elim (fun h => hm (Or.inr (Or.inr (Or.inl h)))) (fun q => q.elim (fun h => hm (Or.inr (Or.inr (Or.inr (Or.inl h))))) (fun q => q.elim (fun h => hm (Or.inr (Or.inr (Or.inr (Or.inr (Or.inl h)))))) (fun q => q.elim (fun h => hm (Or.inr (Or.inr (Or.inr (Or.inr (Or.inr (Or.inl h))))))) (fun h => hm (Or.inr (Or.inr (Or.inr (Or.inr (Or.inr (Or.inr h)))))))))))))).trans ((hF_316 a j (fun q => q.elim (fun h => hm (Or.inl h)) (fun q => q.elim (fun h => hm (Or.inr (Or.inl h))) (fun h => hm (Or.inr (Or.inr (Or.inl h))))))).trans ((up_b (Decidable.or_iff_not_imp_left.mpr (fun h1 h2 => hm (Or.inr (Or.inr (Or.inr (Or.inl ⟨Decidable.not_not.mp h1, h2⟩))))))).trans ((up_b (Decidable.or_iff_not_imp_left.mpr (fun h1 h2 => hm (Or.inl ⟨Decidable.not_not.mp h1, h2⟩)))).trans ((hF_293 a j (fun h => hm (Or.inl h))).trans ((hF_283 a j (fun h => hm (Or.inl h))).trans (hF_278 a j (fun h => hm (Or.inl h)))))))))))))))) (rt_i1 ⟨by first | (clear ha2 hq0 hq1 hq2 hq3 hq4 hq5 hq8 h_1 h_2 h_3 h_4 h_5 h_6 h_7 h_8 h_9 h_10 h_11 h_46 h_65 h_66 h_70 h_75 h_76 h_81 h_82 h_87 h_88 h_93 h_94 h_99 h_260 h_261 h_262 h_263 h_264 h_265 h_266 h_267 h_268 h_269 h_270 h_271 h_272 h_273 h_275 h_288 h_290 h_321 h_322 h_323 h_324 h_325 h_326 h_348 h_349 h_350 h_351 h_346 h_352 h_353 h_354 h_355 h_356 h_366 h_367 h_368 h_369 h_370 h_371 h_387 h_388 h_389 h_385 h_390 h_391 h_392 h_393 h_394 h_405 h_406 h_407 hq6 hq7 h_12 h_21 h_37 h_274 h_286 h_319 h_320 h_345 h_364 h_365 h_384; omega) | omega, by first | (clear ha2 hq0 hq1 hq2 hq3 hq4 hq5 hq8 h_1 h_2 h_3 h_4 h_5 h_6 h_7 h_8 h_9 h_10 h_11 h_46 h_65 h_66 h_70 h_75 h_76 h_81 h_82 h_87 h_88 h_93 h_94 h_99 h_257 h_258 h_259 h_260 h_261 h_262 h_263 h_264 h_265 h_266 h_267 h_268 h_269 h_270 h_271 h_272 h_273 h_275 h_288 h_290 h_321 h_322 h_323 h_324 h_325 h_326 h_348 h_349 h_350 h_351 h_346 h_352 h_353 h_354 h_355 h_356 h_366 h_367 h_368 h_369 h_370 h_371 h_387 h_388 h_389 h_385 h_390 h_391 h_392 h_393 h_394 h_405 h_406 h_407 hq6 hq7 h_12 h_21 h_37 h_274 h_286 h_319 h_320 h_345 h_364 h_365 h_384 h_402 h_403 h_408; omega) | omega, by first | (clear ha2 hq0 hq1 hq2 hq3 hq4 hq5 hq8 h_1 h_2 h_3 h_4 h_5 h_6 h_7 h_8 h_9 h_10 h_11 h_46 h_65 h_66 h_70 h_75 h_76 h_81 h_82 h_87 h_88 h_93 h_94 h_99 h_257 h_258 h_259 h_260 h_261 h_263 h_264 h_265 h_266 h_267 h_268 h_269 h_270 h_271 h_272 h_273 h_275 h_288 h_290 h_321 h_322 h_323 h_324 h_325 h_326 h_348 h_349 h_350 h_351 h_346 h_352 h_353 h_354 h_355 h_356 h_366 h_367 h_368 h_369 h_370 h_371 h_387 h_388 h_389 h_385 h_390 h_391 h_392 h_393 h_394 h_405 h_406 h_407 hq6 hq7 h_12 h_21 h_37 h_274 h_286 h_319 h_320 h_345 h_364 h_365 h_384 h_402 h_403 h_408; omega) | omega, by first | (clear ha2 hq0 hq1 hq2 hq3 hq4 hq5 hq8 h_1 h_2 h_3 h_4 h_5 h_6 h_7 h_8 h_9 h_10 h_11 h_46 h_65 h_66 h_70 h_75 h_76 h_81 h_82 h_87 h_88 h_93 h_94 h_99 h_257 h_258 h_259 h_260 h_261 h_262 h_266 h_267 h_268 h_269 h_270 h_271 h_272 h_273 h_275 h_288 h_290 h_321 h_322 h_323 h_324 h_325 h_326 h_348 h_349 h_350 h_351 h_346 h_352 h_353 h_354 h_355 h_356 h_366 h_367 h_368 h_369 h_370 h_371 h_387 h_388 h_389 h_385 h_390 h_391 h_392 h_393 h_394 h_405 h_406 h_407 hq6 hq7 h_12 h_21 h_37 h_274 h_286 h_319 h_320 h_345 h_364 h_365 h_384 h_402 h_403; omega) | omega⟩) (Or.inr (Or.inr ⟨by first | (clear ha2 hq0 hq1 hq2 hq3 hq8 h_3 h_4 h_5 h_6 h_7 h_8 h_9 h_11 h_65 h_66 h_70 h_75 h_76 h_81 h_82 h_87 h_88 h_257 h_258 h_259 h_260 h_261 h_262 h_263 h_264 h_265 h_268 h_269 h_270 h_271 h_272 h_273 h_275 h_288 h_290 h_321 h_322 h_323 h_324 h_325 h_326 h_348 h_350 h_351 h_346 h_352 h_353 h_354 h_355 h_356 h_367 h_368 h_369 h_370 h_389 h_385 h_390 h_391 h_392 h_393 h_405 h_406 h_407 h_286 h_320 h_365 h_408; omega) | omega, by first | (clear ha2 hq0 hq1 hq2 hq8 h_3 h_4 h_8 h_9 h_11 h_65 h_66 h_70 h_75 h_76 h_87 h_88 h_257 h_258 h_259 h_263 h_264 h_265 h_266 h_268 h_269 h_270 h_272 h_273 h_275 h_288 h_322 h_323 h_324 h_325 h_351 h_346 h_352 h_353 h_354 h_355 h_367 h_368 h_369 h_370 h_389 h_385 h_390 h_391 h_392 h_393 h_405 h_406 h_407 h_286 h_320; omega) | omega, by first | (clear ha2 hq0 hq1 hq2 hq8 h_3 h_4 h_8 h_9 h_65 h_66 h_70 h_258 h_263 h_264 h_265 h_266 h_268 h_269 h_270 h_271 h_288 h_322 h_323 h_324 h_325 h_351 h_346 h_352 h_353 h_354 h_355 h_367 h_368 h_369 h_370 h_389 h_385 h_390 h_391 h_392 h_393 h_405 h_406 h_407; omega) | omega, by first | (clear ha2 hq0 hq1 hq2 hq8 h_8 h_9 h_65 h_66 h_70 h_258 h_264 h_266 h_270 h_322 h_323 h_324 h_325 h_351 h_346 h_352 h_353 h_354 h_355 h_367 h_368 h_369 h_370 h_389 h_385 h_390 h_391 h_392 h_393; omega) | omega⟩)) (by first | (clear ha2 hq0 hq1 hq2 hq3 hq4 hq5 hq8 h_1 h_2 h_3 h_4 h_5 h_6 h_7 h_8 h_9 h_10 h_11 h_46 h_65 h_66 h_70 h_75 h_76 h_81 h_82 h_87 h_88 h_93 h_94 h_99 h_257 h_258 h_259 h_260 h_261 h_262 h_263 h_264 h_265 h_266 h_267 h_268 h_269 h_270 h_271 h_272 h_273 h_275 h_288 h_290 h_321 h_322 h_323 h_324 h_325 h_326 h_348 h_349 h_350 h_351 h_346 h_352 h_353 h_354 h_355 h_356 h_366 h_367 h_368 h_369 h_370 h_371 h_387 h_388 h_389 h_390 h_391 h_392 h_393 h_394 h_405 h_406 h_407 hq6 hq7 h_12 h_21 h_37 h_274 h_286 h_319 h_320 h_345 h_364 h_365 h_384 h_402 h_403 h_408; omega) | omega) (fun _ => ce_le hA_430 (by omega))
          · as_aux_lemma =>
              skip
              refine v_cv rfl rfl rfl rfl (by decide) ⟨⟨rfl, rfl⟩, by decide, rfl⟩ (Nat.le_of_ble_eq_true rfl) (Nat.le_of_ble_eq_true rfl) ?_
              refine q_aload_n rfl rfl ?_
              refine v_cv rfl rfl rfl rfl (by decide) ⟨⟨rfl, rfl⟩, by decide, rfl⟩ (Nat.le_of_ble_eq_true rfl) (Nat.le_of_ble_eq_true rfl) ?_
              refine q_aload_n rfl rfl ?_
              refine v_gi (z := 4) (v := c_89 1 4) rfl rfl rfl (by decide) rfl rfl rfl ?_
              refine v_if_ne_t (t := 11) rfl (by decide) ⟨by first | (clear ha2 hq0 hq1 hq2 hq3 hq4 hq5 hq8 h_1 h_2 h_3 h_4 h_5 h_6 h_7 h_8 h_9 h_10 h_11 h_46 h_65 h_66 h_70 h_75 h_76 h_81 h_82 h_87 h_88 h_93 hq6 hq7 h_12 h_21 h_37; omega) | omega, ⟨(Int.le_trans (by decide) h_93.1), (Int.le_trans h_93.2 (by decide))⟩, by decide, by decide⟩ ?_
              refine q_iconst rfl ?_
              refine v_zret rfl rfl (by decide) ?_
              refine bk_inl ?_
              refine v_if_eq_t (t := 25) rfl (by decide) (by decide) ?_
              refine q_vret rfl rfl ?_
              refine bk_inl ?_
              refine q_aload_n rfl rfl ?_
              refine v_sip rfl (by decide) ?_
              refine q_iload rfl rfl ?_
              refine v_iadd (v := (wd1_0 F (nx F e1 p0) (ln F e1 (nx F e1 p0))) + 2005) rfl (by first | (clear ha2 hq0 hq1 hq2 hq3 hq4 hq5 hq8 h_1 h_2 h_3 h_4 h_5 h_6 h_7 h_8 h_9 h_10 h_11 h_46 h_65 h_66 h_70 h_75 h_76 h_81 h_82 h_87 h_88 h_93 hq6 hq7 h_12 h_21 h_37; omega) | omega) ?_
              refine v_bip rfl (by decide) ?_
              refine v_isub (v := (wd1_0 F (nx F e1 p0) (ln F e1 (nx F e1 p0))) + 1997) rfl (by first | (clear ha2 hq0 hq1 hq2 hq3 hq4 hq5 hq8 h_1 h_2 h_3 h_4 h_5 h_6 h_7 h_8 h_9 h_10 h_11 h_46 h_65 h_66 h_70 h_75 h_76 h_81 h_82 h_87 h_88 h_93 hq6 hq7 h_12 h_21 h_37; omega) | omega) ?_
              refine v_cv rfl rfl rfl (ck_p7 hA) (a68 hA rfl) ⟨⟨rfl, rfl⟩, by decide, rfl⟩ (Nat.le_of_ble_eq_true rfl) (Nat.le_of_ble_eq_true rfl) ?_
              refine q_aload_n rfl rfl ?_
              have h_431 := ir_p7_5 hI_90 hA
              refine v_gi (z := 5) (v := c_89 (A + 7) 5) rfl rfl (ck_p7 hA) (a68 hA rfl) rfl rfl rfl ?_
              refine q_aload_n rfl rfl ?_
              refine v_gr (t := (A + 9)) rfl rfl (ck_p7 hA) (a68 hA rfl) rfl ?_
              refine v_al rfl (ck_p9 hA) (a68 hA rfl) (by decide) ?_
              by_cases h_432 : c_89 (A + 7) 5 ≥ 150
              · refine v_ic_ge_t (t := 32) rfl (by decide) ⟨by decide, h_432, (Int.le_trans h_431.2 (by decide))⟩ ?_
                refine q_vret rfl rfl ?_
                refine bk_inl ?_
                refine q_vret rfl rfl ?_
                intro hE_433
                have hW : Wd P Q P P c_89 = Wd P Q P P m9 := (Prod.mk.inj (Prod.mk.inj hE_433).2).1
                have h_434 := ir_1_4 hJ9
                have h_435 : m9 1 4 = c_89 1 4 := wd_fv (z := 4) 4 rfl hW rfl rfl rfl rfl (by decide) rfl ⟨(Int.le_trans (by decide) h_93.1), (Int.le_trans h_93.2 (by decide))⟩ ⟨(Int.le_trans (by decide) h_434.1), (Int.le_trans h_434.2 (by decide))⟩
                have h_436 := ir_1_2 hI_90
                have h_437 := ir_1_2 hJ9
                have h_438 : m9 1 2 = c_89 1 2 := wd_fv (z := 2) 2 rfl hW rfl rfl rfl rfl (by decide) rfl ⟨(Int.le_trans (by decide) h_436.1), (Int.le_trans h_436.2 (by decide))⟩ ⟨(Int.le_trans (by decide) h_437.1), (Int.le_trans h_437.2 (by decide))⟩
                have h_439 := ir_1_5 hI_90
                have h_440 := ir_1_5 hJ9
                have h_441 : m9 1 5 = c_89 1 5 := wd_fv (z := 5) 5 rfl hW rfl rfl rfl rfl (by decide) rfl ⟨(Int.le_trans (by decide) h_439.1), (Int.le_trans h_439.2 (by decide))⟩ ⟨(Int.le_trans (by decide) h_440.1), (Int.le_trans h_440.2 (by decide))⟩
                have h_442 := ir_p7_5 hJ9 hA
                have h_443 : m9 (A + 7) 5 = c_89 (A + 7) 5 := wd_fv (z := 5) 5 rfl hW (ck_p7 hA) (ck_p7 hA) rfl rfl (by omega) rfl ⟨(Int.le_trans (by decide) h_431.1), (Int.le_trans h_431.2 (by decide))⟩ ⟨(Int.le_trans (by decide) h_442.1), (Int.le_trans h_442.2 (by decide))⟩
                refine q_aload_n rfl rfl ?_
                refine v_cv rfl rfl rfl rfl (by decide) ⟨⟨rfl, rfl⟩, by decide, rfl⟩ (Nat.le_of_ble_eq_true rfl) (Nat.le_of_ble_eq_true rfl) ?_
                refine q_aload_n rfl rfl ?_
                have h_444 := ir_41_5 hI
                have h_445 := ir_41_4 hI
                have h_446 := ir_41_6 hI
                have h_447 := rt_ok hRt (by omega)
                have hro_hRt := rt_ok hRt (by omega)
                refine v_gi (z := 5) (v := (-1)) rfl rfl rfl (by decide) rfl rfl hro_hRt.2.1 ?_
                refine q_iconst rfl ?_
                refine v_ic_ne_f (t := 12) rfl (by decide) (by decide) ?_
                refine q_iconst rfl ?_
                refine q_goto (t := 13) rfl (by decide) ?_
                refine v_zret rfl rfl (by decide) ?_
                refine bk_inl ?_
                refine v_if_ne_t (t := 8) rfl (by decide) (by decide) ?_
                refine q_aload_n rfl rfl ?_
                have h_448 : -2147483648 ≤ (H (nx F e1 p0)) ∧ (H (nx F e1 p0)) ≤ 2147483647 := by rw [← hH (nx F e1 p0)]; exact ir_43 hI (nx F e1 p0)
                have h_449 := hU (nx F e1 p0) (by omega) (by omega)
                have h_450 := hb_or (b := H) (e := e1) (r := (nx F e1 p0))
                have h_451 := hb_bd (b := H) (e := e1) (r := (nx F e1 p0)) (lo := -2147483648) (hi := 2147483647) h_448 (by decide)
                refine v_cv rfl rfl rfl rfl (by decide) ⟨⟨rfl, rfl⟩, by decide, rfl⟩ (Nat.le_of_ble_eq_true rfl) (Nat.le_of_ble_eq_true rfl) (f_154 (e1 := e1) (a9 := p0) (B := H) (r8 := (nx F e1 p0)) (r := (hb H e1 (nx F e1 p0))) hI ((hr_e1)) (((hro_hRt.2.2.1).trans ((hg_p0)))) (fun j => hH j) ((nx_tr hU (by first | (clear ha2 hq0 hq1 hq2 hq3 hq4 hq5 hq8 h_1 h_2 h_3 h_4 h_6 h_7 h_8 h_9 h_10 h_11 h_46 h_65 h_66 h_70 h_75 h_76 h_81 h_82 h_87 h_88 h_93 h_431 h_432 h_434 h_435 h_436 h_437 h_438 h_439 h_440 h_441 h_442 h_443 h_444 h_445 h_446 h_447 hq6 hq7 h_12 h_21 h_37; omega) | omega) (by first | (clear ha2 hq0 hq1 hq2 hq3 hq4 hq8 h_1 h_2 h_3 h_4 h_5 h_6 h_7 h_8 h_9 h_10 h_11 h_46 h_65 h_66 h_70 h_75 h_76 h_81 h_82 h_87 h_88 h_93 h_431 h_432 h_434 h_435 h_436 h_437 h_438 h_439 h_440 h_441 h_442 h_443 h_444 h_445 h_446 h_447 hq6 hq7 h_12 h_21 h_37; omega) | omega)).trans (rfl)) rfl (fun c_452 hI_453 hF_454 h_455 => ?_))
                refine bk_inl ?_
                refine v_bip rfl (by decide) ?_
                refine v_ic_ne_t (t := 45) rfl (by decide) ⟨by first | (clear ha2 hq0 hq1 hq2 hq3 hq8 h_3 h_4 h_5 h_6 h_7 h_8 h_9 h_11 h_65 h_66 h_70 h_75 h_76 h_81 h_82 h_87 h_88 h_93 h_431 h_432 h_434 h_435 h_436 h_437 h_438 h_439 h_440 h_441 h_442 h_443 h_444 h_445 h_446 h_447; omega) | omega, ⟨h_451.1, h_451.2⟩, by decide, by decide⟩ ?_
                refine q_aload_n rfl rfl ?_
                have kn_456 : Hid (c_452 41 3 = e1) := (hF_454 41 3 (fun h => absurd h.2 (ni rfl))).trans (hr_e1)
                refine v_cv rfl rfl rfl rfl (by decide) ⟨⟨rfl, rfl⟩, by decide, rfl⟩ (Nat.le_of_ble_eq_true rfl) (Nat.le_of_ble_eq_true rfl) (f_154 (e1 := e1) (a9 := (nx F e1 p0)) (B := H) (r8 := (nx F e1 p0)) (r := (hb H e1 (nx F e1 p0))) hI_453 ((hid kn_456)) ((h_455)) (fun j => (hF_454 43 j (fun h => absurd h.1 (nn rfl))).trans (hH j)) ((nx_tr hU (by first | (clear ha2 hq0 hq1 hq2 hq3 hq4 hq5 hq8 h_1 h_2 h_3 h_4 h_6 h_7 h_8 h_9 h_11 h_46 h_65 h_66 h_70 h_75 h_76 h_81 h_82 h_87 h_88 h_93 h_431 h_432 h_434 h_435 h_436 h_437 h_438 h_439 h_440 h_441 h_442 h_443 h_444 h_445 h_446 h_447 h_448 h_449 h_451 hq6 hq7 h_12 h_21 h_37 h_450; omega) | omega) (by first | (clear ha2 hq0 hq1 hq2 hq3 hq4 hq8 h_1 h_2 h_3 h_4 h_5 h_6 h_7 h_8 h_9 h_10 h_11 h_46 h_65 h_66 h_70 h_75 h_76 h_81 h_82 h_87 h_88 h_93 h_431 h_432 h_434 h_435 h_436 h_437 h_438 h_439 h_440 h_441 h_442 h_443 h_444 h_445 h_446 h_447 h_448 h_449 h_451 hq6 hq7 h_12 h_21 h_37 h_450; omega) | omega)).trans ((nx_z (by omega)))) rfl (fun c_457 hI_458 hF_459 h_460 => ?_))
                refine bk_inl ?_
                refine q_call rfl rfl rfl rfl (f_156 (a0 := (hb H e1 (nx F e1 p0))) hI_458 (show (-2147483648) ≤ (hb H e1 (nx F e1 p0)) ∧ (hb H e1 (nx F e1 p0)) ≤ 2147483647 from h_451) (fun y_461 hy_461 h_462 => ?_))
                refine bk_inl ?_
                refine v_if_eq_t (t := 71) rfl (by decide) (by first | (clear ha2 hq0 hq1 hq2 hq3 hq8 h_3 h_4 h_5 h_6 h_7 h_8 h_9 h_11 h_65 h_66 h_70 h_75 h_76 h_81 h_82 h_87 h_88 h_93 h_431 h_432 h_434 h_435 h_436 h_437 h_438 h_439 h_440 h_441 h_442 h_443 h_444 h_445 h_446 h_447; omega) | omega) ?_
                refine q_aload_n rfl rfl ?_
                have kn_463 : Hid (c_457 41 3 = e1) := (hF_459 41 3 (fun h => absurd h.2 (ni rfl))).trans (hid kn_456)
                have h_464 := wv_bd (b := F) (r := (nx F e1 p0)) (l := (ln F e1 (nx F e1 p0))) (fun j h1 h2 => ⟨(ln_in (e := e1) (a := (nx F e1 p0)) h1 h2).1, (ln_in (e := e1) (a := (nx F e1 p0)) h1 h2).2.1⟩)
                have h_465 := wr1_8 (b := F) (r := (nx F e1 p0)) (l := (ln F e1 (nx F e1 p0))) (by omega) (fun j h1 h2 => ⟨(ln_in (e := e1) (a := (nx F e1 p0)) h1 h2).1, (ln_in (e := e1) (a := (nx F e1 p0)) h1 h2).2.1⟩) (by omega)
                have h_466 : (wv F (nx F e1 p0) (ln F e1 (nx F e1 p0))) = 12748404 → (ln F e1 (nx F e1 p0)) - (nx F e1 p0) = 5 := wl_least (by omega) (fun j h1 h2 => ⟨(ln_in (e := e1) (a := (nx F e1 p0)) h1 h2).1, (ln_in (e := e1) (a := (nx F e1 p0)) h1 h2).2.1⟩)
                refine v_cv rfl rfl rfl rfl (by decide) ⟨⟨rfl, rfl⟩, by decide, rfl⟩ (Nat.le_of_ble_eq_true rfl) (Nat.le_of_ble_eq_true rfl) (f_157 (e1 := e1) (a9 := (nx F e1 p0)) (B := H) (r8 := (nx F e1 p0)) (L8 := (ln F e1 (nx F e1 p0))) (W8 := (wv F (nx F e1 p0) (ln F e1 (nx F e1 p0)))) hI_458 ((hid kn_463)) ((h_460)) (fun j => ((hF_459 43 j (fun h => absurd h.1 (nn rfl))).trans (hF_454 43 j (fun h => absurd h.1 (nn rfl)))).trans (hH j)) ((nx_tr hU (by first | (clear ha2 hq0 hq1 hq2 hq3 hq4 hq5 hq8 h_1 h_2 h_3 h_4 h_6 h_7 h_8 h_9 h_11 h_46 h_65 h_66 h_70 h_75 h_76 h_81 h_82 h_87 h_88 h_93 h_431 h_432 h_434 h_435 h_436 h_437 h_438 h_439 h_440 h_441 h_442 h_443 h_444 h_445 h_446 h_447 h_448 h_449 h_451 hq6 hq7 h_12 h_21 h_37 h_450 h_462; omega) | omega) (by first | (clear ha2 hq0 hq1 hq2 hq3 hq4 hq8 h_1 h_2 h_3 h_4 h_5 h_6 h_7 h_8 h_9 h_10 h_11 h_46 h_65 h_66 h_70 h_75 h_76 h_81 h_82 h_87 h_88 h_93 h_431 h_432 h_434 h_435 h_436 h_437 h_438 h_439 h_440 h_441 h_442 h_443 h_444 h_445 h_446 h_447 h_448 h_449 h_451 hq6 hq7 h_12 h_21 h_37 h_450 h_462; omega) | omega)).trans ((nx_z (by omega)))) ((ln_tr hU (by first | (clear ha2 hq0 hq1 hq2 hq3 hq4 hq5 hq8 h_1 h_2 h_3 h_4 h_6 h_7 h_8 h_9 h_11 h_46 h_65 h_66 h_70 h_75 h_76 h_81 h_82 h_87 h_88 h_93 h_431 h_432 h_434 h_435 h_436 h_437 h_438 h_439 h_440 h_441 h_442 h_443 h_444 h_445 h_446 h_447 h_448 h_449 h_451 hq6 hq7 h_12 h_21 h_37 h_450 h_462; omega) | omega) (by first | (clear ha2 hq0 hq1 hq2 hq3 hq4 hq8 h_1 h_2 h_3 h_4 h_5 h_6 h_7 h_8 h_9 h_10 h_11 h_46 h_65 h_66 h_70 h_75 h_76 h_81 h_82 h_87 h_88 h_93 h_431 h_432 h_434 h_435 h_436 h_437 h_438 h_439 h_440 h_441 h_442 h_443 h_444 h_445 h_446 h_447 h_448 h_449 h_451 hq6 hq7 h_12 h_21 h_37 h_450 h_462; omega) | omega)).trans (rfl)) ((wv_tr hU (by first | (clear ha2 hq0 hq1 hq2 hq3 hq4 hq5 hq8 h_1 h_2 h_3 h_4 h_6 h_7 h_8 h_9 h_11 h_46 h_65 h_66 h_70 h_75 h_76 h_81 h_82 h_87 h_88 h_93 h_431 h_432 h_434 h_435 h_436 h_437 h_438 h_439 h_440 h_441 h_442 h_443 h_444 h_445 h_446 h_447 h_448 h_449 h_451 h_464 h_466 hq6 hq7 h_12 h_21 h_37 h_450 h_462; omega) | omega) (by first | (clear ha2 hq0 hq1 hq2 hq3 hq4 hq8 h_1 h_2 h_3 h_4 h_5 h_6 h_7 h_8 h_9 h_10 h_11 h_65 h_66 h_70 h_75 h_76 h_81 h_82 h_87 h_88 h_93 h_431 h_432 h_434 h_435 h_436 h_437 h_438 h_439 h_440 h_441 h_442 h_443 h_444 h_445 h_446 h_447 h_448 h_449 h_451 h_464 h_466 hq6 hq7 h_12 h_21 h_37 h_450 h_462; omega) | omega) (fun j h1 h2 => ⟨(ln_in (e := e1) (a := (nx F e1 p0)) h1 h2).1, (ln_in (e := e1) (a := (nx F e1 p0)) h1 h2).2.1⟩)).trans (rfl)) (fun c_467 hI_468 hF_469 hz_470 => ?_))
                refine bk_inl ?_
                refine q_ldc_w_s rfl rfl rfl (by decide) ?_
                refine q_call rfl rfl rfl rfl (s_158_20 ?_)
                refine bk_inl ?_
                refine v_ic_ne_f (t := 94) rfl (by decide) (by first | (clear ha2 hq0 hq1 hq2 hq3 hq4 hq5 hq8 h_1 h_2 h_3 h_4 h_5 h_6 h_7 h_8 h_9 h_10 h_11 h_46 h_65 h_66 h_70 h_75 h_76 h_81 h_82 h_87 h_88 h_93 h_431 h_432 h_434 h_435 h_436 h_437 h_438 h_439 h_440 h_441 h_442 h_443 h_444 h_445 h_446 h_447 h_448 h_449 h_451 h_464 hq6 hq7 h_12 h_21 h_37 h_450 h_462; omega) | omega) ?_
                refine q_aload_n rfl rfl ?_
                refine q_iconst rfl ?_
                refine v_bip rfl (by decide) ?_
                refine v_cv rfl rfl rfl rfl (by decide) ⟨⟨rfl, rfl⟩, by decide, rfl⟩ (Nat.le_of_ble_eq_true rfl) (Nat.le_of_ble_eq_true rfl) ?_
                refine q_aload_n rfl rfl ?_
                refine q_iload_n rfl rfl ?_
                refine v_cv rfl rfl rfl rfl (by decide) ⟨⟨rfl, rfl⟩, by decide, rfl⟩ (Nat.le_of_ble_eq_true rfl) (Nat.le_of_ble_eq_true rfl) ?_
                refine q_aload_n rfl rfl ?_
                refine v_cv rfl rfl rfl rfl (by decide) ⟨⟨rfl, rfl⟩, by decide, rfl⟩ (Nat.le_of_ble_eq_true rfl) (Nat.le_of_ble_eq_true rfl) ?_
                refine q_aload_n rfl rfl ?_
                have kn_471 : Hid (c_452 41 5 = (-1)) := (hF_454 41 5 (fun h => absurd h.2 (ni rfl))).trans hro_hRt.2.1
                have kn_472 : Hid (c_457 41 5 = (-1)) := (hF_459 41 5 (fun h => absurd h.2 (ni rfl))).trans (hid kn_471)
                have kn_473 : Hid (c_467 41 5 = (-1)) := (hF_469 41 5 (fun h => absurd h.2 (ni rfl))).trans (hid kn_472)
                refine v_gi (z := 5) (v := (-1)) rfl rfl rfl (by decide) rfl rfl (hid kn_473) ?_
                refine q_iconst rfl ?_
                refine v_ic_ne_f (t := 12) rfl (by decide) (by decide) ?_
                refine q_iconst rfl ?_
                refine q_goto (t := 13) rfl (by decide) ?_
                refine v_zret rfl rfl (by decide) ?_
                refine bk_inl ?_
                refine v_if_eq_f (t := 25) rfl (by decide) (by decide) ?_
                refine q_aload_n rfl rfl ?_
                have kn_474 : Hid (c_452 41 7 = o0) := (hF_454 41 7 (fun h => absurd h.2 (ni rfl))).trans (hr_o0)
                have kn_475 : Hid (c_457 41 7 = o0) := (hF_459 41 7 (fun h => absurd h.2 (ni rfl))).trans (hid kn_474)
                have kn_476 : Hid (c_467 41 7 = o0) := (hF_469 41 7 (fun h => absurd h.2 (ni rfl))).trans (hid kn_475)
                refine v_gi (z := 7) (v := o0) rfl rfl rfl (by decide) rfl rfl (hid kn_476) ?_
                refine v_bip rfl (by decide) ?_
                refine v_ic_ne_t (t := 25) rfl (by decide) ⟨by first | (clear ha2 hq0 hq1 hq3 hq4 hq5 hq8 h_1 h_2 h_3 h_4 h_5 h_6 h_7 h_8 h_9 h_10 h_11 h_46 h_65 h_66 h_75 h_76 h_81 h_82 h_87 h_88 h_93 h_431 h_432 h_434 h_435 h_436 h_437 h_438 h_439 h_440 h_441 h_442 h_443 h_444 h_445 h_446 h_447 h_448 h_449 h_451 h_464 h_466 hq6 hq7 h_12 h_21 h_37 h_450 h_462; omega) | omega, ⟨(Int.le_trans (by decide) (rg_eq hr_o0 h_8).1), (Int.le_trans (rg_eq hr_o0 h_8).2 (by decide))⟩, by decide, by decide⟩ ?_
                refine q_aload_n rfl rfl ?_
                refine v_cv rfl rfl rfl rfl (by decide) ⟨⟨rfl, rfl⟩, by decide, rfl⟩ (Nat.le_of_ble_eq_true rfl) (Nat.le_of_ble_eq_true rfl) ?_
                refine q_aload_n rfl rfl ?_
                refine v_gi (z := 5) (v := (-1)) rfl rfl rfl (by decide) rfl rfl (hid kn_473) ?_
                refine q_iconst rfl ?_
                refine v_ic_ne_f (t := 12) rfl (by decide) (by decide) ?_
                refine q_iconst rfl ?_
                refine q_goto (t := 13) rfl (by decide) ?_
                refine v_zret rfl rfl (by decide) ?_
                refine bk_inl ?_
                refine v_if_eq_f (t := 42) rfl (by decide) (by decide) ?_
                refine q_aload_n rfl rfl ?_
                refine q_dup rfl rfl ?_
                refine v_gi (z := 4) (v := (nx F e1 p0)) rfl rfl rfl (by decide) rfl rfl (hz_470) ?_
                refine q_iload_n rfl rfl ?_
                refine v_iadd (v := (nx F e1 p0) + 5) rfl rfl ?_
                refine v_pi (z := 4) rfl rfl rfl (by decide) rfl rfl rfl (by decide) ?_
                refine q_aload_n rfl rfl ?_
                refine q_dup rfl rfl ?_
                refine v_gi (z := 7) (v := o0) rfl rfl rfl (by decide) rfl rfl ((up_n (by decide)).trans (hid kn_476)) ?_
                refine q_iconst rfl ?_
                refine v_iadd (v := o0 + 1) rfl rfl ?_
                refine v_pi (z := 7) rfl rfl rfl (by decide) rfl rfl rfl (by decide) ?_
                refine q_vret rfl rfl ?_
                refine bk_inl ?_
                refine q_aload_n rfl rfl ?_
                refine v_bip rfl (by decide) ?_
                have hI_477 := iw_41_4 (v := (nx F e1 p0) + 5) hI_468 ⟨by first | exact rgp_l (rg_be h_10 ((rg_eq hg_p0 h_5).1) ((rg_eq hg_e1 h_1).2)).1 (by decide) | omega, by first | exact rgp_h (rg_be h_10 ((rg_eq hg_p0 h_5).1) ((rg_eq hg_e1 h_1).2)).2 (by decide) | omega⟩
                have hI_478 := iw_41_7 (v := o0 + 1) hI_477 ⟨by first | exact rgp_l (rg_eq hr_o0 h_8).1 (by decide) | omega, by first | (clear ha2 hq0 hq1 hq3 hq4 hq5 hq8 h_1 h_2 h_3 h_4 h_5 h_6 h_7 h_8 h_9 h_10 h_11 h_46 h_65 h_66 h_75 h_76 h_81 h_82 h_87 h_88 h_93 h_431 h_432 h_434 h_435 h_436 h_437 h_438 h_439 h_440 h_441 h_442 h_443 h_444 h_445 h_446 h_447 h_448 h_449 h_451 h_464 h_466 hq6 hq7 h_12 h_21 h_37 h_450 h_462; omega) | omega⟩
                have kn_479 : Hid (c_62 1 1 = e1) := (hF_64 1 1 (fun q => q.elim (fun h => absurd h.2 (ni rfl)) (fun q => q.elim (fun h => absurd h.2 (ni rfl)) (fun h => absurd h.2 (ni rfl))))).trans (hid kn_39)
                have kn_480 : Hid (c_467 41 3 = e1) := (hF_469 41 3 (fun h => absurd h.2 (ni rfl))).trans (hid kn_463)
                have h_481 : c_62 1 4 = 0 := (hz_68)
                have h_482 : c_62 1 2 = (ln F e1 (nx F e1 p0)) := (hz_67)
                have h_483 : c_62 1 5 = g0 := (hz_69)
                have h_484 : (up (up c_467 41 4 ((nx F e1 p0) + 5)) 41 7 (o0 + 1)) 41 5 = (-1) := ((up_n (by decide)).trans ((up_n (by decide)).trans (hid kn_473)))
                have h_485 : (up (up c_467 41 4 ((nx F e1 p0) + 5)) 41 7 (o0 + 1)) 41 4 = (nx F e1 p0) + 5 := ((up_n (by decide)).trans (up_e rfl))
                have kn_486 : Hid (c_452 41 6 = c 41 6) := hF_454 41 6 (fun h => absurd h.2 (ni rfl))
                have kn_487 : Hid (c_457 41 6 = c 41 6) := (hF_459 41 6 (fun h => absurd h.2 (ni rfl))).trans (hid kn_486)
                have kn_488 : Hid (c_467 41 6 = c 41 6) := (hF_469 41 6 (fun h => absurd h.2 (ni rfl))).trans (hid kn_487)
                have h_489 : (up (up c_467 41 4 ((nx F e1 p0) + 5)) 41 7 (o0 + 1)) 41 6 = c 41 6 := ((up_n (by decide)).trans ((up_n (by decide)).trans (hid kn_488)))
                refine v_cv rfl rfl rfl rfl (by decide) ⟨⟨rfl, rfl⟩, by decide, rfl⟩ (Nat.le_of_ble_eq_true rfl) (Nat.le_of_ble_eq_true rfl) (L_11_3 (m := c_62) (e1 := e1) (a9 := (ln F e1 (nx F e1 p0))) (f0 := 0) (F := F) (H := H) hI_478 hI_63 hI_72 ((hid kn_479)) (((up_n (by decide)).trans ((up_n (by decide)).trans (hid kn_480)))) ((hz_67)) ((hz_68)) (fun j => ((hF_64 2 j (fun q => q.elim (fun h => absurd h.1 (nn rfl)) (fun q => q.elim (fun h => absurd h.1 (nn rfl)) (fun h => absurd h.1 (nn rfl))))).trans ((hF_36 2 j (fun h => absurd h.1 (nn rfl))).trans ((hF_26 2 j (fun h => absurd h.1 (nn rfl))).trans (hF_20 2 j (fun h => absurd h.1 (nn rfl)))))).trans (hF j)) (fun j => ((up_c (nn rfl)).trans ((up_c (nn rfl)).trans ((hF_469 43 j (fun h => absurd h.1 (nn rfl))).trans ((hF_459 43 j (fun h => absurd h.1 (nn rfl))).trans (hF_454 43 j (fun h => absurd h.1 (nn rfl))))))).trans (hH j)) hU (rt_i1 ⟨by first | (clear ha2 hq0 hq1 hq2 hq3 hq4 hq5 hq8 h_1 h_2 h_3 h_4 h_5 h_6 h_7 h_8 h_9 h_10 h_11 h_46 h_65 h_66 h_70 h_75 h_76 h_81 h_82 h_87 h_88 h_93 h_431 h_432 h_434 h_435 h_436 h_437 h_438 h_439 h_440 h_441 h_442 h_443 h_444 h_445 h_446 h_447 h_448 h_449 h_451 h_464 h_466 hq6 hq7 h_12 h_21 h_37 h_450 h_462; omega) | omega, by first | (clear ha2 hq0 hq1 hq2 hq3 hq4 hq5 hq8 h_1 h_2 h_3 h_4 h_5 h_6 h_7 h_8 h_9 h_10 h_11 h_46 h_65 h_66 h_70 h_75 h_76 h_81 h_82 h_87 h_88 h_93 h_431 h_432 h_434 h_435 h_436 h_437 h_438 h_439 h_440 h_441 h_442 h_443 h_444 h_445 h_446 h_447 h_448 h_449 h_451 h_464 h_466 hq6 hq7 h_12 h_21 h_37 h_450 h_462; omega) | omega, by first | (clear ha2 hq0 hq1 hq2 hq3 hq4 hq5 hq8 h_1 h_2 h_3 h_4 h_5 h_6 h_7 h_8 h_9 h_10 h_11 h_46 h_65 h_66 h_70 h_75 h_76 h_81 h_82 h_87 h_88 h_93 h_431 h_432 h_434 h_435 h_436 h_437 h_438 h_439 h_440 h_441 h_442 h_443 h_444 h_445 h_446 h_447 h_448 h_449 h_451 h_464 hq6 hq7 h_12 h_21 h_37 h_450 h_462; omega) | omega, by first | (clear ha2 hq0 hq2 hq3 hq4 hq5 hq8 h_1 h_2 h_3 h_4 h_5 h_6 h_7 h_8 h_9 h_10 h_11 h_46 h_65 h_66 h_70 h_75 h_76 h_81 h_82 h_87 h_88 h_93 h_431 h_432 h_434 h_435 h_436 h_437 h_438 h_439 h_440 h_441 h_442 h_443 h_444 h_445 h_446 h_447 h_448 h_449 h_451 h_464 h_466 hq6 hq7 h_12 h_21 h_37 h_450 h_462; omega) | omega⟩) hG_74 (fun c_490 hI_491 hF_492 hR_494 h_495 h_496 => ?_))
                refine bk_inl ?_
                have h_497 := ir_1_2 hI_72
                refine q_aload_n rfl rfl ?_
                have h_498 := ir_41_5 hI_491
                have h_499 := ir_1_5 hI_72
                have h_500 := ir_41_4 hI_491
                have h_501 := ir_41_6 hI_491
                have h_502 := rt_ok hR_494 (by omega)
                have hro_hR_494 := rt_ok hR_494 (by omega)
                have kn_503 : Hid (c_71 1 1 = e1) := (hF_73 1 1 (fun q => q.elim (fun h => absurd h.2 (ni rfl)) (fun q => q.elim (fun h => absurd h.2 (ni rfl)) (fun h => absurd h.2 (ni rfl))))).trans (hid kn_479)
                have kn_504 : Hid (c_490 41 3 = e1) := (hF_492 41 3 (fun q => q.elim (fun h => absurd h.2 (ni rfl)) (fun q => q.elim (fun h => absurd h.2 (ni rfl)) (fun h => absurd h.2 (ni rfl))))).trans ((up_n (by decide)).trans ((up_n (by decide)).trans (hid kn_480)))
                have kn_505 : Hid (c_18 (A + 7) 5 = n0) := (hF_20 (A + 7) 5 (fun h => absurd h.1 (np hA rfl rfl))).trans (hg_n0)
                have kn_506 : Hid (c_24 (A + 7) 5 = n0) := (hF_26 (A + 7) 5 (fun h => absurd h.1 (np hA rfl rfl))).trans (hid kn_505)
                have kn_507 : Hid (c_34 (A + 7) 5 = n0) := (hF_36 (A + 7) 5 (fun h => absurd h.1 (np hA rfl rfl))).trans (hid kn_506)
                have kn_508 : Hid (c_62 (A + 7) 5 = n0) := (hF_64 (A + 7) 5 (fun q => q.elim (fun h => absurd h.1 (np hA rfl rfl)) (fun q => q.elim (fun h => absurd h.1 (np hA rfl rfl)) (fun h => absurd h.1 (np hA rfl rfl))))).trans (hid kn_507)
                have kn_509 : Hid (c_71 (A + 7) 5 = n0) := (hF_73 (A + 7) 5 (fun q => q.elim (fun h => absurd h.1 (np hA rfl rfl)) (fun q => q.elim (fun h => absurd h.1 (np hA rfl rfl)) (fun h => absurd h.1 (np hA rfl rfl))))).trans (hid kn_508)
                have kn_510 : Hid (c_452 41 29 = n0) := (hF_454 41 29 (fun h => absurd h.2 (ni rfl))).trans (hr_n0)
                have kn_511 : Hid (c_457 41 29 = n0) := (hF_459 41 29 (fun h => absurd h.2 (ni rfl))).trans (hid kn_510)
                have kn_512 : Hid (c_467 41 29 = n0) := (hF_469 41 29 (fun h => absurd h.2 (ni rfl))).trans (hid kn_511)
                have kn_513 : Hid (c_490 41 29 = n0) := (hF_492 41 29 (fun q => q.elim (fun h => absurd h.2 (ni rfl)) (fun q => q.elim (fun h => absurd h.2 (ni rfl)) (fun h => absurd h.2 (ni rfl))))).trans ((up_n (by decide)).trans ((up_n (by decide)).trans (hid kn_512)))
                have kn_514 : Hid (c_490 41 7 = o0 + 1) := (hF_492 41 7 (fun q => q.elim (fun h => absurd h.2 (ni rfl)) (fun q => q.elim (fun h => absurd h.2 (ni rfl)) (fun h => absurd h.2 (ni rfl))))).trans (up_e rfl)
                have hA_515 : Ce n0 (c_71 (A + 9)) (c_490 50) (c_490 51) := ce_fr hr0 (fun j => (hF_73 (A + 9) j (fun q => q.elim (fun h => absurd h.1 (np hA rfl rfl)) (fun q => q.elim (fun h => absurd h.1 (np hA rfl rfl)) (fun h => absurd h.1 (np hA rfl rfl))))).trans ((hF_64 (A + 9) j (fun q => q.elim (fun h => absurd h.1 (np hA rfl rfl)) (fun q => q.elim (fun h => absurd h.1 (np hA rfl rfl)) (fun h => absurd h.1 (np hA rfl rfl))))).trans ((hF_36 (A + 9) j (fun h => absurd h.1 (np hA rfl rfl))).trans ((hF_26 (A + 9) j (fun h => absurd h.1 (np hA rfl rfl))).trans (hF_20 (A + 9) j (fun h => absurd h.1 (np hA rfl rfl))))))) (fun j => (hF_492 50 j (fun q => q.elim (fun h => absurd h.1 (nn rfl)) (fun q => q.elim (fun h => absurd h.1 (nn rfl)) (fun h => absurd h.1 (nn rfl))))).trans ((up_c (nn rfl)).trans ((up_c (nn rfl)).trans ((hF_469 50 j (fun h => absurd h.1 (nn rfl))).trans ((hF_459 50 j (fun h => absurd h.1 (nn rfl))).trans (hF_454 50 j (fun h => absurd h.1 (nn rfl)))))))) (fun j => (hF_492 51 j (fun q => q.elim (fun h => absurd h.1 (nn rfl)) (fun q => q.elim (fun h => absurd h.1 (nn rfl)) (fun h => absurd h.1 (nn rfl))))).trans ((up_c (nn rfl)).trans ((up_c (nn rfl)).trans ((hF_469 51 j (fun h => absurd h.1 (nn rfl))).trans ((hF_459 51 j (fun h => absurd h.1 (nn rfl))).trans (hF_454 51 j (fun h => absurd h.1 (nn rfl))))))))
                refine v_cv rfl rfl rfl rfl (by decide) ⟨⟨rfl, rfl⟩, by decide, rfl⟩ (Nat.le_of_ble_eq_true rfl) (Nat.le_of_ble_eq_true rfl) (H13 (m := c_71) (e1 := e1) (f0 := c_71 1 4) (g0 := c_71 1 5) (p0 := c_71 1 2) (n0 := n0) (o0 := o0 + 1) (by omega) (by omega) hI_491 hI_72 hI_78 (show 0 ≤ a2 + 1 ∧ a2 + 1 ≤ 6 from ⟨by first | exact rgp_l ha2.1 (by decide) | omega, by first | (clear ha2 hq0 hq1 hq2 hq3 hq4 hq5 hq8 h_1 h_2 h_3 h_4 h_5 h_6 h_7 h_8 h_9 h_10 h_11 h_46 h_65 h_66 h_75 h_76 h_81 h_82 h_87 h_88 h_93 h_431 h_432 h_434 h_435 h_436 h_437 h_438 h_439 h_440 h_441 h_442 h_443 h_444 h_445 h_446 h_447 h_448 h_449 h_451 h_464 h_466 h_497 h_498 h_499 h_500 h_501 h_502 hq6 hq7 h_12 h_21 h_37 h_450 h_462 h_495 h_496; omega) | omega⟩) (by first | (clear ha2 hq0 hq1 hq2 hq3 hq4 hq5 hq8 h_1 h_2 h_3 h_4 h_5 h_6 h_7 h_8 h_9 h_10 h_11 h_46 h_65 h_66 h_70 h_81 h_82 h_87 h_88 h_93 h_431 h_432 h_434 h_435 h_436 h_437 h_438 h_439 h_440 h_441 h_442 h_443 h_444 h_445 h_446 h_447 h_448 h_449 h_451 h_464 h_466 h_497 h_498 h_499 h_500 h_501 h_502 hq6 hq7 h_12 h_21 h_37 h_450 h_462 h_495 h_496; omega) | omega) (by first | (clear ha2 hq0 hq1 hq2 hq3 hq4 hq5 hq8 h_1 h_2 h_3 h_4 h_5 h_6 h_7 h_8 h_9 h_10 h_11 h_46 h_65 h_66 h_70 h_75 h_76 h_81 h_82 h_87 h_88 h_93 h_431 h_432 h_434 h_435 h_436 h_437 h_438 h_439 h_440 h_441 h_442 h_443 h_444 h_445 h_446 h_447 h_448 h_449 h_451 h_464 h_466 h_497 h_498 h_500 h_501 hq6 hq7 h_12 h_21 h_37 h_450 h_462 h_495 h_496; omega) | omega) (by first | (clear ha2 hq0 hq1 hq3 hq4 hq5 hq8 h_1 h_2 h_3 h_4 h_5 h_6 h_7 h_8 h_9 h_10 h_11 h_46 h_65 h_66 h_70 h_75 h_76 h_81 h_82 h_87 h_88 h_93 h_431 h_432 h_434 h_435 h_436 h_437 h_438 h_439 h_440 h_441 h_442 h_443 h_444 h_445 h_446 h_447 h_448 h_449 h_451 h_464 h_466 h_497 h_498 h_499 h_500 h_501 h_502 hq6 hq7 h_12 h_21 h_37 h_450 h_462 h_495 h_496; omega) | omega) (by first | (clear ha2 hq0 hq1 hq2 hq8 h_3 h_4 h_8 h_9 h_11 h_65 h_66 h_70 h_81 h_82 h_87 h_88 h_93 h_431 h_432 h_434 h_435 h_436 h_437 h_438 h_439 h_440 h_441 h_442 h_443 h_444 h_445 h_446 h_447 h_448 h_449 h_451 h_464 h_501 h_462; omega) | omega) (by first | (clear ha2 hq0 hq1 hq2 hq3 hq8 h_3 h_4 h_5 h_6 h_7 h_8 h_9 h_11 h_65 h_66 h_70 h_75 h_76 h_81 h_82 h_87 h_88 h_93 h_431 h_432 h_434 h_435 h_436 h_437 h_438 h_439 h_440 h_441 h_442 h_443 h_444 h_445 h_446 h_447 h_448 h_449 h_451 h_464 h_466 h_498 h_499 h_500 h_501 h_462 h_496; omega) | omega) (by first | (clear ha2 hq0 hq1 hq2 hq3 hq4 hq8 h_1 h_2 h_3 h_4 h_5 h_6 h_7 h_8 h_9 h_10 h_11 h_46 h_65 h_66 h_70 h_75 h_76 h_81 h_82 h_87 h_88 h_93 h_431 h_432 h_434 h_435 h_436 h_437 h_438 h_439 h_440 h_441 h_442 h_443 h_444 h_445 h_446 h_447 h_448 h_449 h_451 h_464 h_466 h_497 h_498 h_499 h_500 h_501 h_502 hq6 hq7 h_12 h_21 h_37 h_450 h_462 h_495 h_496; omega) | omega) ((hid kn_503)) ((hid kn_504)) (rfl) (rfl) (rfl) ((hid kn_509)) ((hid kn_513)) ((hid kn_514)) (fun j => ((hF_73 2 j (fun q => q.elim (fun h => absurd h.1 (nn rfl)) (fun q => q.elim (fun h => absurd h.1 (nn rfl)) (fun h => absurd h.1 (nn rfl))))).trans ((hF_64 2 j (fun q => q.elim (fun h => absurd h.1 (nn rfl)) (fun q => q.elim (fun h => absurd h.1 (nn rfl)) (fun h => absurd h.1 (nn rfl))))).trans ((hF_36 2 j (fun h => absurd h.1 (nn rfl))).trans ((hF_26 2 j (fun h => absurd h.1 (nn rfl))).trans (hF_20 2 j (fun h => absurd h.1 (nn rfl))))))).trans (hF j)) (fun j => ((hF_492 43 j (fun q => q.elim (fun h => absurd h.1 (nn rfl)) (fun q => q.elim (fun h => absurd h.1 (nn rfl)) (fun h => absurd h.1 (nn rfl))))).trans ((up_c (nn rfl)).trans ((up_c (nn rfl)).trans ((hF_469 43 j (fun h => absurd h.1 (nn rfl))).trans ((hF_459 43 j (fun h => absurd h.1 (nn rfl))).trans (hF_454 43 j (fun h => absurd h.1 (nn rfl)))))))).trans (hH j)) hU hR_494 (ce_le hA_515 (by omega)) hG_80 (fun c_516 hI_517 hF_518 hR_520 h_521 h_522 hA_523 => ?_))
                refine bk_inl ?_
                have h_524 := ir_41_29 hI_517
                have h_525 := ir_p7_5 hI_78 hA
                have h_526 := ir_1_2 hI_78
                have h_527 := ir_41_7 hI_517
                refine q_aload_n rfl rfl ?_
                refine v_bip rfl (by decide) ?_
                have h_528 := ir_41_5 hI_517
                have h_529 := ir_1_5 hI_78
                have h_530 := ir_41_4 hI_517
                have h_531 := ir_41_6 hI_517
                have h_532 := rt_ok hR_520 (by omega)
                have hro_hR_520 := rt_ok hR_520 (by omega)
                have kn_533 : Hid (c_77 1 1 = e1) := (hF_79 1 1 (fun q => q.elim (fun h => absurd h.2 (ni rfl)) (fun q => q.elim (fun h => absurd h.2 (ni rfl)) (fun q => q.elim (fun h => absurd h.2 (ni rfl)) (fun q => q.elim (fun h => absurd h.1 (pn hA rfl rfl)) (fun h => absurd h (pn hA rfl rfl))))))).trans (hid kn_503)
                have kn_534 : Hid (c_516 41 3 = e1) := (hF_518 41 3 (fun q => q.elim (fun h => absurd h.2 (ni rfl)) (fun q => q.elim (fun h => absurd h.2 (ni rfl)) (fun q => q.elim (fun h => absurd h.2 (ni rfl)) (fun q => q.elim (fun h => absurd h.2 (ni rfl)) (fun q => q.elim (fun h => absurd h.2 (ni rfl)) (fun q => q.elim (fun h => absurd h (nn rfl)) (fun h => absurd h (nn rfl))))))))).trans (hid kn_504)
                refine v_cv rfl rfl rfl rfl (by decide) ⟨⟨rfl, rfl⟩, by decide, rfl⟩ (Nat.le_of_ble_eq_true rfl) (Nat.le_of_ble_eq_true rfl) (L_11_4 (m := c_77) (e1 := e1) (a9 := c_77 1 2) (f0 := c_77 1 4) (F := F) (H := H) hI_517 hI_78 hI_84 ((hid kn_533)) ((hid kn_534)) (rfl) (rfl) (fun j => ((hF_79 2 j (fun q => q.elim (fun h => absurd h.1 (nn rfl)) (fun q => q.elim (fun h => absurd h.1 (nn rfl)) (fun q => q.elim (fun h => absurd h.1 (nn rfl)) (fun q => q.elim (fun h => absurd h.1 (pn hA rfl rfl)) (fun h => absurd h (pn hA rfl rfl))))))).trans ((hF_73 2 j (fun q => q.elim (fun h => absurd h.1 (nn rfl)) (fun q => q.elim (fun h => absurd h.1 (nn rfl)) (fun h => absurd h.1 (nn rfl))))).trans ((hF_64 2 j (fun q => q.elim (fun h => absurd h.1 (nn rfl)) (fun q => q.elim (fun h => absurd h.1 (nn rfl)) (fun h => absurd h.1 (nn rfl))))).trans ((hF_36 2 j (fun h => absurd h.1 (nn rfl))).trans ((hF_26 2 j (fun h => absurd h.1 (nn rfl))).trans (hF_20 2 j (fun h => absurd h.1 (nn rfl)))))))).trans (hF j)) (fun j => ((hF_518 43 j (fun q => q.elim (fun h => absurd h.1 (nn rfl)) (fun q => q.elim (fun h => absurd h.1 (nn rfl)) (fun q => q.elim (fun h => absurd h.1 (nn rfl)) (fun q => q.elim (fun h => absurd h.1 (nn rfl)) (fun q => q.elim (fun h => absurd h.1 (nn rfl)) (fun q => q.elim (fun h => absurd h (nn rfl)) (fun h => absurd h (nn rfl))))))))).trans ((hF_492 43 j (fun q => q.elim (fun h => absurd h.1 (nn rfl)) (fun q => q.elim (fun h => absurd h.1 (nn rfl)) (fun h => absurd h.1 (nn rfl))))).trans ((up_c (nn rfl)).trans ((up_c (nn rfl)).trans ((hF_469 43 j (fun h => absurd h.1 (nn rfl))).trans ((hF_459 43 j (fun h => absurd h.1 (nn rfl))).trans (hF_454 43 j (fun h => absurd h.1 (nn rfl))))))))).trans (hH j)) hU hR_520 hG_86 (fun c_535 hI_536 hF_537 hR_539 h_540 h_541 => ?_))
                refine bk_inl ?_
                have h_542 := ir_1_2 hI_84
                refine q_aload_n rfl rfl ?_
                have h_543 := ir_41_5 hI_536
                have h_544 := ir_1_5 hI_84
                have h_545 := ir_41_4 hI_536
                have h_546 := ir_41_6 hI_536
                have h_547 := rt_ok hR_539 (by omega)
                have hro_hR_539 := rt_ok hR_539 (by omega)
                have kn_548 : Hid (c_83 1 1 = e1) := (hF_85 1 1 (fun q => q.elim (fun h => absurd h.2 (ni rfl)) (fun q => q.elim (fun h => absurd h.2 (ni rfl)) (fun h => absurd h.2 (ni rfl))))).trans (hid kn_533)
                have kn_549 : Hid (c_535 41 3 = e1) := (hF_537 41 3 (fun q => q.elim (fun h => absurd h.2 (ni rfl)) (fun q => q.elim (fun h => absurd h.2 (ni rfl)) (fun h => absurd h.2 (ni rfl))))).trans (hid kn_534)
                have kn_550 : Hid (c_83 (A + 7) 5 = c_77 (A + 7) 5) := hF_85 (A + 7) 5 (fun q => q.elim (fun h => absurd h.1 (np hA rfl rfl)) (fun q => q.elim (fun h => absurd h.1 (np hA rfl rfl)) (fun h => absurd h.1 (np hA rfl rfl))))
                have kn_551 : Hid (c_535 41 29 = c_516 41 29) := hF_537 41 29 (fun q => q.elim (fun h => absurd h.2 (ni rfl)) (fun q => q.elim (fun h => absurd h.2 (ni rfl)) (fun h => absurd h.2 (ni rfl))))
                have kn_552 : Hid (c_535 41 7 = c_516 41 7) := hF_537 41 7 (fun q => q.elim (fun h => absurd h.2 (ni rfl)) (fun q => q.elim (fun h => absurd h.2 (ni rfl)) (fun h => absurd h.2 (ni rfl))))
                have hA_553 : Ce (c_516 41 29) (c_83 (A + 9)) (c_535 50) (c_535 51) := ce_fr (hA_523 (by omega)) (fun j => hF_85 (A + 9) j (fun q => q.elim (fun h => absurd h.1 (np hA rfl rfl)) (fun q => q.elim (fun h => absurd h.1 (np hA rfl rfl)) (fun h => absurd h.1 (np hA rfl rfl))))) (fun j => hF_537 50 j (fun q => q.elim (fun h => absurd h.1 (nn rfl)) (fun q => q.elim (fun h => absurd h.1 (nn rfl)) (fun h => absurd h.1 (nn rfl))))) (fun j => hF_537 51 j (fun q => q.elim (fun h => absurd h.1 (nn rfl)) (fun q => q.elim (fun h => absurd h.1 (nn rfl)) (fun h => absurd h.1 (nn rfl)))))
                have hA_554 : Ce (c_77 (A + 7) 5) (c_83 (A + 9)) (c_535 50) (c_535 51) := ce_le hA_553 (by omega)
                refine v_cv rfl rfl rfl rfl (by decide) ⟨⟨rfl, rfl⟩, by decide, rfl⟩ (Nat.le_of_ble_eq_true rfl) (Nat.le_of_ble_eq_true rfl) (H13 (m := c_83) (e1 := e1) (f0 := c_83 1 4) (g0 := c_83 1 5) (p0 := c_83 1 2) (n0 := c_77 (A + 7) 5) (o0 := c_516 41 7) (by omega) (by omega) hI_536 hI_84 hI_90 (show 0 ≤ a2 + 1 ∧ a2 + 1 ≤ 6 from ⟨by first | exact rgp_l ha2.1 (by decide) | omega, by first | (clear ha2 hq0 hq1 hq2 hq3 hq4 hq5 hq8 h_1 h_2 h_3 h_4 h_5 h_6 h_7 h_8 h_9 h_10 h_11 h_46 h_65 h_66 h_75 h_76 h_81 h_82 h_87 h_88 h_93 h_431 h_432 h_434 h_435 h_436 h_437 h_438 h_439 h_440 h_441 h_442 h_443 h_444 h_445 h_446 h_447 h_448 h_449 h_451 h_464 h_466 h_497 h_498 h_499 h_500 h_501 h_502 h_524 h_525 h_526 h_527 h_522 h_528 h_529 h_530 h_531 h_532 h_542 h_543 h_544 h_545 h_546 h_547 hq6 hq7 h_12 h_21 h_37 h_450 h_462 h_495 h_496 h_521 h_540 h_541; omega) | omega⟩) (by first | (clear ha2 hq0 hq1 hq2 hq3 hq4 hq5 hq8 h_1 h_2 h_3 h_4 h_5 h_6 h_7 h_8 h_9 h_10 h_11 h_46 h_65 h_66 h_70 h_75 h_76 h_81 h_82 h_93 h_431 h_432 h_434 h_435 h_436 h_437 h_438 h_439 h_440 h_441 h_442 h_443 h_444 h_445 h_446 h_447 h_448 h_449 h_451 h_464 h_466 h_497 h_498 h_499 h_500 h_501 h_502 h_524 h_525 h_526 h_527 h_522 h_528 h_529 h_530 h_531 h_532 h_542 h_543 h_544 h_545 h_546 h_547 hq6 hq7 h_12 h_21 h_37 h_450 h_462 h_495 h_496 h_521 h_540 h_541; omega) | omega) (by first | (clear ha2 hq0 hq1 hq2 hq3 hq4 hq5 hq8 h_1 h_2 h_3 h_4 h_5 h_6 h_7 h_8 h_9 h_10 h_11 h_46 h_65 h_66 h_70 h_75 h_76 h_81 h_82 h_87 h_88 h_93 h_431 h_432 h_434 h_435 h_436 h_437 h_438 h_439 h_440 h_441 h_442 h_443 h_444 h_445 h_446 h_447 h_448 h_449 h_451 h_464 h_466 h_497 h_498 h_499 h_500 h_501 h_502 h_524 h_525 h_526 h_527 h_522 h_528 h_529 h_530 h_531 h_532 h_542 h_543 h_545 h_546 hq6 hq7 h_12 h_21 h_37 h_450 h_462 h_495 h_496 h_521 h_540 h_541; omega) | omega) (by first | (clear ha2 hq0 hq1 hq2 hq3 hq4 hq5 hq8 h_1 h_2 h_3 h_4 h_5 h_6 h_7 h_8 h_9 h_10 h_11 h_46 h_65 h_66 h_70 h_75 h_76 h_81 h_82 h_87 h_88 h_93 h_431 h_432 h_434 h_435 h_436 h_437 h_438 h_439 h_440 h_441 h_442 h_443 h_444 h_445 h_446 h_447 h_448 h_449 h_451 h_464 h_466 h_497 h_498 h_499 h_500 h_501 h_502 h_524 h_525 h_526 h_527 h_528 h_529 h_530 h_531 h_532 h_542 h_543 h_544 h_545 h_546 h_547 hq6 hq7 h_12 h_21 h_37 h_450 h_462 h_495 h_496 h_521 h_540 h_541; omega) | omega) (by first | (clear ha2 hq0 hq1 hq2 hq8 h_3 h_4 h_5 h_8 h_9 h_11 h_65 h_66 h_70 h_75 h_76 h_93 h_431 h_432 h_434 h_435 h_436 h_437 h_438 h_439 h_440 h_441 h_442 h_443 h_444 h_445 h_446 h_447 h_448 h_449 h_451 h_464 h_466 h_498 h_499 h_500 h_501 h_527 h_522 h_528 h_529 h_530 h_531 h_546 h_462 h_496; omega) | omega) (by first | (clear ha2 hq0 hq1 hq2 hq3 hq8 h_3 h_4 h_5 h_6 h_7 h_8 h_9 h_11 h_65 h_66 h_70 h_75 h_76 h_81 h_82 h_87 h_88 h_93 h_431 h_432 h_434 h_435 h_436 h_437 h_438 h_439 h_440 h_441 h_442 h_443 h_444 h_445 h_446 h_447 h_448 h_449 h_451 h_464 h_466 h_497 h_498 h_499 h_500 h_501 h_502 h_524 h_525 h_526 h_527 h_522 h_528 h_529 h_530 h_531 h_532 h_543 h_544 h_545 h_546 h_462 h_496 h_541; omega) | omega) (by first | (clear ha2 hq0 hq1 hq2 hq3 hq4 hq8 h_1 h_2 h_3 h_4 h_5 h_6 h_7 h_8 h_9 h_10 h_11 h_46 h_65 h_66 h_70 h_75 h_76 h_81 h_82 h_87 h_88 h_93 h_431 h_432 h_434 h_435 h_436 h_437 h_438 h_439 h_440 h_441 h_442 h_443 h_444 h_445 h_446 h_447 h_448 h_449 h_451 h_464 h_466 h_497 h_498 h_499 h_500 h_501 h_502 h_524 h_525 h_526 h_527 h_522 h_528 h_529 h_530 h_531 h_532 h_542 h_543 h_544 h_545 h_546 h_547 hq6 hq7 h_12 h_21 h_37 h_450 h_462 h_495 h_496 h_521 h_540 h_541; omega) | omega) ((hid kn_548)) ((hid kn_549)) (rfl) (rfl) (rfl) ((hid kn_550)) (((show _ = c_516 41 29 from (hid kn_551)).trans (by omega))) ((hid kn_552)) (fun j => ((hF_85 2 j (fun q => q.elim (fun h => absurd h.1 (nn rfl)) (fun q => q.elim (fun h => absurd h.1 (nn rfl)) (fun h => absurd h.1 (nn rfl))))).trans ((hF_79 2 j (fun q => q.elim (fun h => absurd h.1 (nn rfl)) (fun q => q.elim (fun h => absurd h.1 (nn rfl)) (fun q => q.elim (fun h => absurd h.1 (nn rfl)) (fun q => q.elim (fun h => absurd h.1 (pn hA rfl rfl)) (fun h => absurd h (pn hA rfl rfl))))))).trans ((hF_73 2 j (fun q => q.elim (fun h => absurd h.1 (nn rfl)) (fun q => q.elim (fun h => absurd h.1 (nn rfl)) (fun h => absurd h.1 (nn rfl))))).trans ((hF_64 2 j (fun q => q.elim (fun h => absurd h.1 (nn rfl)) (fun q => q.elim (fun h => absurd h.1 (nn rfl)) (fun h => absurd h.1 (nn rfl))))).trans ((hF_36 2 j (fun h => absurd h.1 (nn rfl))).trans ((hF_26 2 j (fun h => absurd h.1 (nn rfl))).trans (hF_20 2 j (fun h => absurd h.1 (nn rfl))))))))).trans (hF j)) (fun j => ((hF_537 43 j (fun q => q.elim (fun h => absurd h.1 (nn rfl)) (fun q => q.elim (fun h => absurd h.1 (nn rfl)) (fun h => absurd h.1 (nn rfl))))).trans ((hF_518 43 j (fun q => q.elim (fun h => absurd h.1 (nn rfl)) (fun q => q.elim (fun h => absurd h.1 (nn rfl)) (fun q => q.elim (fun h => absurd h.1 (nn rfl)) (fun q => q.elim (fun h => absurd h.1 (nn rfl)) (fun q => q.elim (fun h => absurd h.1 (nn rfl)) (fun q => q.elim (fun h => absurd h (nn rfl)) (fun h => absurd h (nn rfl))))))))).trans ((hF_492 43 j (fun q => q.elim (fun h => absurd h.1 (nn rfl)) (fun q => q.elim (fun h => absurd h.1 (nn rfl)) (fun h => absurd h.1 (nn rfl))))).trans ((up_c (nn rfl)).trans ((up_c (nn rfl)).trans ((hF_469 43 j (fun h => absurd h.1 (nn rfl))).trans ((hF_459 43 j (fun h => absurd h.1 (nn rfl))).trans (hF_454 43 j (fun h => absurd h.1 (nn rfl)))))))))).trans (hH j)) hU hR_539 (ce_le hA_554 (by omega)) hG_92 (fun c_555 hI_556 hF_557 hR_559 h_560 h_561 hA_562 => ?_))
                refine bk_inl ?_
                have h_563 := ir_41_29 hI_556
                have h_564 := ir_41_7 hI_556
                refine q_aload_n rfl rfl ?_
                refine v_bip rfl (by decide) ?_
                have h_565 := ir_41_5 hI_556
                have h_566 := ir_41_4 hI_556
                have h_567 := ir_41_6 hI_556
                have h_568 := rt_bad hR_559 (by omega)
                have hrb_hR_559 := rt_bad hR_559 (by omega)
                refine v_cv rfl rfl rfl rfl (by decide) ⟨⟨rfl, rfl⟩, by decide, rfl⟩ (Nat.le_of_ble_eq_true rfl) (Nat.le_of_ble_eq_true rfl) ?_
                refine q_aload_n rfl rfl ?_
                refine v_cv rfl rfl rfl rfl (by decide) ⟨⟨rfl, rfl⟩, by decide, rfl⟩ (Nat.le_of_ble_eq_true rfl) (Nat.le_of_ble_eq_true rfl) ?_
                refine q_aload_n rfl rfl ?_
                refine v_gi (z := 5) (v := c_89 1 5) rfl rfl rfl (by decide) rfl rfl hrb_hR_559.2.1 ?_
                refine q_iconst rfl ?_
                refine v_ic_ne_t (t := 12) rfl (by decide) ⟨by first | (clear ha2 hq0 hq1 hq2 hq3 hq4 hq5 hq8 h_1 h_2 h_3 h_4 h_5 h_6 h_7 h_8 h_9 h_10 h_11 h_46 h_65 h_66 h_70 h_75 h_76 h_81 h_82 h_87 h_88 h_93 h_431 h_432 h_434 h_435 h_436 h_437 h_438 h_439 h_440 h_441 h_442 h_443 h_444 h_445 h_446 h_447 h_448 h_449 h_451 h_464 h_466 h_497 h_498 h_499 h_500 h_501 h_502 h_524 h_525 h_526 h_527 h_522 h_528 h_529 h_530 h_531 h_532 h_542 h_543 h_544 h_545 h_546 h_547 h_563 h_564 h_561 h_565 h_566 h_567 hq6 hq7 h_12 h_21 h_37 h_450 h_462 h_495 h_496 h_521 h_540 h_541 h_560; omega) | omega, ⟨(Int.le_trans (by decide) h_439.1), (Int.le_trans h_439.2 (by decide))⟩, by decide, by decide⟩ ?_
                refine q_iconst rfl ?_
                refine v_zret rfl rfl (by decide) ?_
                refine bk_inl ?_
                refine v_if_eq_t (t := 24) rfl (by decide) (by decide) ?_
                refine q_aload_n rfl rfl ?_
                refine v_cv rfl rfl rfl rfl (by decide) ⟨⟨rfl, rfl⟩, by decide, rfl⟩ (Nat.le_of_ble_eq_true rfl) (Nat.le_of_ble_eq_true rfl) ?_
                refine q_aload_n rfl rfl ?_
                refine v_gi (z := 5) (v := c_89 1 5) rfl rfl rfl (by decide) rfl rfl hrb_hR_559.2.1 ?_
                refine q_iconst rfl ?_
                refine v_ic_ne_t (t := 12) rfl (by decide) ⟨by first | (clear ha2 hq0 hq1 hq2 hq3 hq4 hq5 hq8 h_1 h_2 h_3 h_4 h_5 h_6 h_7 h_8 h_9 h_10 h_11 h_46 h_65 h_66 h_70 h_75 h_76 h_81 h_82 h_87 h_88 h_93 h_431 h_432 h_434 h_435 h_436 h_437 h_438 h_439 h_440 h_441 h_442 h_443 h_444 h_445 h_446 h_447 h_448 h_449 h_451 h_464 h_466 h_497 h_498 h_499 h_500 h_501 h_502 h_524 h_525 h_526 h_527 h_522 h_528 h_529 h_530 h_531 h_532 h_542 h_543 h_544 h_545 h_546 h_547 h_563 h_564 h_561 h_565 h_566 h_567 hq6 hq7 h_12 h_21 h_37 h_450 h_462 h_495 h_496 h_521 h_540 h_541 h_560; omega) | omega, ⟨(Int.le_trans (by decide) h_439.1), (Int.le_trans h_439.2 (by decide))⟩, by decide, by decide⟩ ?_
                refine q_iconst rfl ?_
                refine v_zret rfl rfl (by decide) ?_
                refine bk_inl ?_
                refine v_if_eq_t (t := 41) rfl (by decide) (by decide) ?_
                refine q_vret rfl rfl ?_
                refine bk_inl ?_
                refine q_aload_n rfl rfl ?_
                refine q_dup rfl rfl ?_
                refine v_gi (z := 7) (v := c_555 41 7) rfl rfl rfl (by decide) rfl rfl rfl ?_
                refine q_iconst rfl ?_
                refine v_isub (v := c_555 41 7 - 1) rfl rfl ?_
                refine v_pi (z := 7) rfl rfl rfl (by decide) rfl rfl rfl (by decide) ?_
                refine q_aload_n rfl rfl ?_
                refine q_iload_n rfl rfl ?_
                refine q_iconst rfl ?_
                refine v_cv rfl rfl rfl rfl (by decide) ⟨⟨rfl, rfl⟩, by decide, rfl⟩ (Nat.le_of_ble_eq_true rfl) (Nat.le_of_ble_eq_true rfl) ?_
                refine q_aload_n rfl rfl ?_
                refine v_cv rfl rfl rfl rfl (by decide) ⟨⟨rfl, rfl⟩, by decide, rfl⟩ (Nat.le_of_ble_eq_true rfl) (Nat.le_of_ble_eq_true rfl) ?_
                refine q_aload_n rfl rfl ?_
                refine v_gi (z := 5) (v := c_89 1 5) rfl rfl rfl (by decide) rfl rfl (((up_n (by decide))).trans (hrb_hR_559.2.1)) ?_
                refine q_iconst rfl ?_
                refine v_ic_ne_t (t := 12) rfl (by decide) ⟨by first | (clear ha2 hq0 hq1 hq2 hq3 hq4 hq5 hq8 h_1 h_2 h_3 h_4 h_5 h_6 h_7 h_8 h_9 h_10 h_11 h_46 h_65 h_66 h_70 h_75 h_76 h_81 h_82 h_87 h_88 h_93 h_431 h_432 h_434 h_435 h_436 h_437 h_438 h_439 h_440 h_441 h_442 h_443 h_444 h_445 h_446 h_447 h_448 h_449 h_451 h_464 h_466 h_497 h_498 h_499 h_500 h_501 h_502 h_524 h_525 h_526 h_527 h_522 h_528 h_529 h_530 h_531 h_532 h_542 h_543 h_544 h_545 h_546 h_547 h_563 h_564 h_561 h_565 h_566 h_567 hq6 hq7 h_12 h_21 h_37 h_450 h_462 h_495 h_496 h_521 h_540 h_541 h_560; omega) | omega, ⟨(Int.le_trans (by decide) h_439.1), (Int.le_trans h_439.2 (by decide))⟩, by decide, by decide⟩ ?_
                refine q_iconst rfl ?_
                refine v_zret rfl rfl (by decide) ?_
                refine bk_inl ?_
                refine v_if_ne_f (t := 8) rfl (by decide) (by decide) ?_
                refine q_vret rfl rfl ?_
                refine bk_inl ?_
                refine q_vret rfl rfl ?_
                refine bk_inl ?_
                refine q_goto (t := 154) rfl (by decide) ?_
                refine q_vret rfl rfl ?_
                have hI_569 := iw_41_7 (v := c_555 41 7 - 1) hI_556 ⟨by first | (clear hq0 hq1 hq2 hq3 hq4 hq5 hq8 h_1 h_2 h_3 h_4 h_5 h_6 h_7 h_8 h_9 h_10 h_11 h_46 h_65 h_66 h_70 h_75 h_76 h_81 h_82 h_87 h_88 h_93 h_431 h_432 h_434 h_435 h_436 h_437 h_438 h_439 h_440 h_441 h_442 h_443 h_444 h_445 h_446 h_447 h_448 h_449 h_451 h_464 h_466 h_497 h_498 h_499 h_500 h_501 h_502 h_524 h_525 h_526 h_527 h_522 h_528 h_529 h_530 h_531 h_532 h_542 h_543 h_544 h_545 h_546 h_547 h_563 h_564 h_565 h_566 h_567 h_568 hq6 hq7 h_12 h_21 h_37 h_450 h_462 h_495 h_496 h_521 h_540 h_541 h_560; omega) | omega, by first | exact rgm_h h_564.2 (by decide) | omega⟩
                have h_570 : (up c_555 41 7 (c_555 41 7 - 1)) 41 5 = c_89 1 5 := (((up_n (by decide))).trans (hrb_hR_559.2.1))
                have h_571 : (up c_555 41 7 (c_555 41 7 - 1)) 41 4 = c_555 41 4 := (up_n (by decide))
                have h_572 : (up c_555 41 7 (c_555 41 7 - 1)) 41 6 = c_89 1 4 := (((up_n (by decide))).trans (hrb_hR_559.2.2.2))
                have h_573 : (up c_555 41 7 (c_555 41 7 - 1)) 41 29 = c_555 41 29 := (up_n (by decide))
                have h_574 : (up c_555 41 7 (c_555 41 7 - 1)) 41 7 = c_555 41 7 - 1 := (up_e rfl)
                have h_575 : (up c_555 41 7 (c_555 41 7 - 1)) 41 29 = c_555 41 29 := (up_n (by decide))
                exact K (up c_555 41 7 (c_555 41 7 - 1))  hI_569 (fun a j hm => (up_b (Decidable.or_iff_not_imp_left.mpr (fun h1 h2 => hm (Or.inr (Or.inr (Or.inr (Or.inl ⟨Decidable.not_not.mp h1, h2⟩))))))).trans ((hF_557 a j (fun q => q.elim (fun h => hm (Or.inl h)) (fun q => q.elim (fun h => hm (Or.inr (Or.inl h))) (fun q => q.elim (fun h => hm (Or.inr (Or.inr (Or.inl h)))) (fun q => q.elim (fun h => hm (Or.inr (Or.inr (Or.inr (Or.inl h))))) (fun q => q.elim (fun h => hm (Or.inr (Or.inr (Or.inr (Or.inr (Or.inl h)))))) (fun q => q.elim (fun h => hm (Or.inr (Or.inr (Or.inr (Or.inr (Or.inr (Or.inl h))))))) (fun h => hm (Or.inr (Or.inr (Or.inr (Or.inr (Or.inr (Or.inr h)))))))))))))).trans ((hF_537 a j (fun q => q.elim (fun h => hm (Or.inl h)) (fun q => q.elim (fun h => hm (Or.inr (Or.inl h))) (fun h => hm (Or.inr (Or.inr (Or.inl h))))))).trans ((hF_518 a j (fun q => q.elim (fun h => hm (Or.inl h)) (fun q => q.elim (fun h => hm (Or.inr (Or.inl h))) (fun q => q.elim (fun h => hm (Or.inr (Or.inr (Or.inl h)))) (fun q => q.elim (fun h => hm (Or.inr (Or.inr (Or.inr (Or.inl h))))) (fun q => q.elim (fun h => hm (Or.inr (Or.inr (Or.inr (Or.inr (Or.inl h)))))) (fun q => q.elim (fun h => hm (Or.inr (Or.inr (Or.inr (Or.inr (Or.inr (Or.inl h))))))) (fun h => hm (Or.inr (Or.inr (Or.inr (Or.inr (Or.inr (Or.inr h)))))))))))))).trans ((hF_492 a j (fun q => q.elim (fun h => hm (Or.inl h)) (fun q => q.elim (fun h => hm (Or.inr (Or.inl h))) (fun h => hm (Or.inr (Or.inr (Or.inl h))))))).trans ((up_b (Decidable.or_iff_not_imp_left.mpr (fun h1 h2 => hm (Or.inr (Or.inr (Or.inr (Or.inl ⟨Decidable.not_not.mp h1, h2⟩))))))).trans ((up_b (Decidable.or_iff_not_imp_left.mpr (fun h1 h2 => hm (Or.inl ⟨Decidable.not_not.mp h1, h2⟩)))).trans ((hF_469 a j (fun h => hm (Or.inl h))).trans ((hF_459 a j (fun h => hm (Or.inl h))).trans (hF_454 a j (fun h => hm (Or.inl h)))))))))))) (rt_i2 ⟨⟨by first | (clear ha2 hq0 hq1 hq2 hq3 hq4 hq5 hq8 h_1 h_2 h_3 h_4 h_5 h_6 h_7 h_8 h_9 h_10 h_11 h_46 h_65 h_66 h_70 h_75 h_76 h_81 h_82 h_87 h_88 h_93 h_431 h_432 h_434 h_436 h_437 h_438 h_439 h_440 h_441 h_442 h_443 h_444 h_445 h_446 h_447 h_448 h_449 h_451 h_464 h_466 h_497 h_498 h_499 h_500 h_501 h_502 h_524 h_525 h_526 h_527 h_522 h_528 h_529 h_530 h_531 h_532 h_542 h_543 h_544 h_545 h_546 h_547 h_563 h_564 h_561 h_565 h_566 h_567 hq6 hq7 h_12 h_21 h_37 h_450 h_462 h_495 h_496 h_521 h_540 h_541 h_560; omega) | omega, by first | (clear ha2 hq0 hq1 hq2 hq3 hq4 hq5 hq8 h_1 h_2 h_3 h_4 h_5 h_6 h_7 h_8 h_9 h_10 h_11 h_46 h_65 h_66 h_70 h_75 h_76 h_81 h_82 h_87 h_88 h_93 h_431 h_432 h_435 h_436 h_437 h_438 h_439 h_440 h_441 h_442 h_443 h_444 h_445 h_446 h_447 h_448 h_449 h_451 h_464 h_466 h_497 h_498 h_499 h_500 h_501 h_502 h_524 h_525 h_526 h_527 h_522 h_528 h_529 h_530 h_531 h_532 h_542 h_543 h_544 h_545 h_546 h_547 h_563 h_564 h_561 h_565 h_566 h_567 h_568 hq6 hq7 h_12 h_21 h_37 h_450 h_462 h_495 h_496 h_521 h_540 h_541 h_560; omega) | omega⟩, by first | (clear ha2 hq0 hq1 hq2 hq3 hq4 hq5 hq8 h_1 h_2 h_3 h_4 h_5 h_6 h_7 h_8 h_9 h_10 h_11 h_46 h_65 h_66 h_70 h_75 h_76 h_81 h_82 h_87 h_88 h_93 h_431 h_432 h_434 h_435 h_436 h_437 h_438 h_439 h_440 h_442 h_443 h_444 h_445 h_446 h_447 h_448 h_449 h_451 h_464 h_466 h_497 h_498 h_499 h_500 h_501 h_502 h_524 h_525 h_526 h_527 h_522 h_528 h_529 h_530 h_531 h_532 h_542 h_543 h_544 h_545 h_546 h_547 h_563 h_564 h_561 h_565 h_566 h_567 h_568 hq6 hq7 h_12 h_21 h_37 h_450 h_462 h_495 h_496 h_521 h_540 h_541 h_560; omega) | omega, by first | (clear ha2 hq0 hq1 hq2 hq3 hq4 hq5 hq8 h_1 h_2 h_3 h_4 h_5 h_6 h_7 h_8 h_9 h_10 h_11 h_46 h_65 h_66 h_70 h_75 h_76 h_81 h_82 h_87 h_88 h_93 h_431 h_432 h_434 h_435 h_436 h_437 h_438 h_439 h_440 h_442 h_443 h_444 h_445 h_446 h_447 h_448 h_449 h_451 h_464 h_466 h_497 h_498 h_499 h_500 h_501 h_502 h_524 h_525 h_526 h_527 h_522 h_528 h_529 h_530 h_531 h_532 h_542 h_543 h_544 h_545 h_546 h_547 h_563 h_564 h_561 h_565 h_566 h_567 hq6 hq7 h_12 h_21 h_37 h_450 h_462 h_495 h_496 h_521 h_540 h_541 h_560; omega) | omega, by first | (clear ha2 hq0 hq1 hq2 hq3 hq4 hq5 hq8 h_1 h_2 h_3 h_4 h_5 h_6 h_7 h_8 h_9 h_10 h_11 h_46 h_65 h_66 h_70 h_75 h_76 h_81 h_82 h_87 h_88 h_93 h_431 h_432 h_434 h_436 h_437 h_438 h_439 h_440 h_441 h_442 h_443 h_444 h_445 h_446 h_447 h_448 h_449 h_451 h_464 h_466 h_497 h_498 h_499 h_500 h_501 h_502 h_524 h_525 h_526 h_527 h_522 h_528 h_529 h_530 h_531 h_532 h_542 h_543 h_544 h_545 h_546 h_547 h_563 h_564 h_561 h_565 h_566 h_567 h_568 hq6 hq7 h_12 h_21 h_37 h_450 h_462 h_495 h_496 h_521 h_540 h_541 h_560; omega) | omega⟩) (Or.inr (Or.inl (by first | (clear ha2 hq0 hq1 hq2 hq3 hq4 hq5 hq8 h_1 h_2 h_3 h_4 h_5 h_6 h_7 h_8 h_9 h_10 h_11 h_46 h_65 h_66 h_70 h_75 h_76 h_81 h_82 h_87 h_88 h_93 h_431 h_432 h_434 h_436 h_437 h_438 h_439 h_440 h_441 h_442 h_443 h_444 h_445 h_446 h_447 h_448 h_449 h_451 h_464 h_466 h_497 h_498 h_499 h_500 h_501 h_502 h_524 h_525 h_526 h_527 h_522 h_528 h_529 h_530 h_531 h_532 h_542 h_543 h_544 h_545 h_546 h_547 h_563 h_564 h_561 h_565 h_566 h_567 hq6 hq7 h_12 h_21 h_37 h_450 h_462 h_495 h_496 h_521 h_540 h_541 h_560; omega) | omega))) (by first | (clear ha2 hq0 hq1 hq2 hq3 hq4 hq5 hq8 h_1 h_2 h_3 h_4 h_5 h_6 h_7 h_8 h_9 h_10 h_11 h_46 h_65 h_66 h_70 h_75 h_76 h_81 h_82 h_87 h_88 h_93 h_431 h_432 h_434 h_435 h_436 h_437 h_438 h_439 h_440 h_441 h_442 h_443 h_444 h_445 h_446 h_447 h_448 h_449 h_451 h_464 h_466 h_497 h_498 h_499 h_500 h_501 h_502 h_524 h_525 h_526 h_527 h_522 h_528 h_529 h_530 h_531 h_532 h_542 h_543 h_544 h_545 h_546 h_547 h_563 h_564 h_565 h_566 h_567 h_568 hq6 hq7 h_12 h_21 h_37 h_450 h_462 h_495 h_496 h_521 h_540 h_541 h_560; omega) | omega) (fun hz => absurd hz (by omega))
              · refine v_ic_ge_f (t := 32) rfl (by decide) ⟨(Int.le_trans (by decide) h_431.1), (Int.not_le.mp h_432), by decide⟩ ?_
                refine q_aload_n rfl rfl ?_
                refine v_gr (t := (A + 9)) rfl rfl (ck_p7 hA) (a68 hA rfl) rfl ?_
                refine q_aload_n rfl rfl ?_
                refine v_gi (z := 5) (v := c_89 (A + 7) 5) rfl rfl (ck_p7 hA) (a68 hA rfl) rfl rfl rfl ?_
                refine q_iload_n rfl rfl ?_
                refine v_is rfl (ck_p9 hA) (a68 hA rfl) (by decide) (by omega) ?_
                refine q_aload_n rfl rfl ?_
                refine q_dup rfl rfl ?_
                refine v_gi (z := 5) (v := c_89 (A + 7) 5) rfl rfl (ck_p7 hA) (a68 hA rfl) rfl rfl (up_c (pp rfl)) ?_
                refine q_iconst rfl ?_
                refine v_iadd (v := c_89 (A + 7) 5 + 1) rfl rfl ?_
                refine v_pi (z := 5) rfl rfl (ck_p7 hA) (a68 hA rfl) rfl rfl rfl (by decide) ?_
                refine q_vret rfl rfl ?_
                refine bk_inl ?_
                refine q_vret rfl rfl ?_
                have hI_576 := iw_lg (j := c_89 (A + 7) 5) (v := (wd1_0 F (nx F e1 p0) (ln F e1 (nx F e1 p0))) + 1997) hI_90 (lgp (k := 9) hA (by decide)) ⟨by omega, by omega⟩ (by omega)
                have hI_577 := iw_p7_5 (v := c_89 (A + 7) 5 + 1) hI_576 hA ⟨by first | exact rgp_l h_431.1 (by decide) | omega, by first | (clear ha2 hq0 hq1 hq2 hq3 hq4 hq5 hq8 h_1 h_2 h_3 h_4 h_5 h_6 h_7 h_8 h_9 h_10 h_11 h_46 h_65 h_66 h_70 h_75 h_76 h_81 h_82 h_87 h_88 h_93 h_431 hq6 hq7 h_12 h_21 h_37; omega) | omega⟩
                intro hE_578
                have hW : Wd P Q P P (up (up c_89 (A + 9) (c_89 (A + 7) 5) ((wd1_0 F (nx F e1 p0) (ln F e1 (nx F e1 p0))) + 1997)) (A + 7) 5 (c_89 (A + 7) 5 + 1)) = Wd P Q P P m9 := (Prod.mk.inj (Prod.mk.inj hE_578).2).1
                have h_579 := ir_1_4 hJ9
                have h_580 : m9 1 4 = c_89 1 4 := wd_fv (z := 4) 4 rfl hW rfl rfl rfl rfl (by decide) ((up_c (pn hA rfl rfl)).trans (up_c (pn hA rfl rfl))) ⟨(Int.le_trans (by decide) h_93.1), (Int.le_trans h_93.2 (by decide))⟩ ⟨(Int.le_trans (by decide) h_579.1), (Int.le_trans h_579.2 (by decide))⟩
                have h_581 := ir_1_2 hI_90
                have h_582 := ir_1_2 hJ9
                have h_583 : m9 1 2 = c_89 1 2 := wd_fv (z := 2) 2 rfl hW rfl rfl rfl rfl (by decide) ((up_c (pn hA rfl rfl)).trans (up_c (pn hA rfl rfl))) ⟨(Int.le_trans (by decide) h_581.1), (Int.le_trans h_581.2 (by decide))⟩ ⟨(Int.le_trans (by decide) h_582.1), (Int.le_trans h_582.2 (by decide))⟩
                have h_584 := ir_1_5 hI_90
                have h_585 := ir_1_5 hJ9
                have h_586 : m9 1 5 = c_89 1 5 := wd_fv (z := 5) 5 rfl hW rfl rfl rfl rfl (by decide) ((up_c (pn hA rfl rfl)).trans (up_c (pn hA rfl rfl))) ⟨(Int.le_trans (by decide) h_584.1), (Int.le_trans h_584.2 (by decide))⟩ ⟨(Int.le_trans (by decide) h_585.1), (Int.le_trans h_585.2 (by decide))⟩
                have h_587 := ir_p7_5 hJ9 hA
                have h_588 : m9 (A + 7) 5 = c_89 (A + 7) 5 + 1 := wd_fv (z := 5) 5 rfl hW (ck_p7 hA) (ck_p7 hA) rfl rfl (by omega) (up_e rfl) ⟨by first | exact rgp_l h_431.1 (by decide) | omega, by first | exact rgp_h h_431.2 (by decide) | omega⟩ ⟨(Int.le_trans (by decide) h_587.1), (Int.le_trans h_587.2 (by decide))⟩
                refine q_aload_n rfl rfl ?_
                refine v_cv rfl rfl rfl rfl (by decide) ⟨⟨rfl, rfl⟩, by decide, rfl⟩ (Nat.le_of_ble_eq_true rfl) (Nat.le_of_ble_eq_true rfl) ?_
                refine q_aload_n rfl rfl ?_
                have h_589 := ir_41_5 hI
                have h_590 := ir_41_4 hI
                have h_591 := ir_41_6 hI
                have h_592 := rt_ok hRt (by omega)
                have hro_hRt := rt_ok hRt (by omega)
                refine v_gi (z := 5) (v := (-1)) rfl rfl rfl (by decide) rfl rfl hro_hRt.2.1 ?_
                refine q_iconst rfl ?_
                refine v_ic_ne_f (t := 12) rfl (by decide) (by decide) ?_
                refine q_iconst rfl ?_
                refine q_goto (t := 13) rfl (by decide) ?_
                refine v_zret rfl rfl (by decide) ?_
                refine bk_inl ?_
                refine v_if_ne_t (t := 8) rfl (by decide) (by decide) ?_
                refine q_aload_n rfl rfl ?_
                have h_593 : -2147483648 ≤ (H (nx F e1 p0)) ∧ (H (nx F e1 p0)) ≤ 2147483647 := by rw [← hH (nx F e1 p0)]; exact ir_43 hI (nx F e1 p0)
                have h_594 := hU (nx F e1 p0) (by omega) (by omega)
                have h_595 := hb_or (b := H) (e := e1) (r := (nx F e1 p0))
                have h_596 := hb_bd (b := H) (e := e1) (r := (nx F e1 p0)) (lo := -2147483648) (hi := 2147483647) h_593 (by decide)
                refine v_cv rfl rfl rfl rfl (by decide) ⟨⟨rfl, rfl⟩, by decide, rfl⟩ (Nat.le_of_ble_eq_true rfl) (Nat.le_of_ble_eq_true rfl) (f_154 (e1 := e1) (a9 := p0) (B := H) (r8 := (nx F e1 p0)) (r := (hb H e1 (nx F e1 p0))) hI ((hr_e1)) (((hro_hRt.2.2.1).trans ((hg_p0)))) (fun j => hH j) ((nx_tr hU (by first | (clear ha2 hq0 hq1 hq2 hq3 hq4 hq5 hq8 h_1 h_2 h_3 h_4 h_6 h_7 h_8 h_9 h_10 h_11 h_46 h_65 h_66 h_70 h_75 h_76 h_81 h_82 h_87 h_88 h_93 h_431 h_579 h_580 h_581 h_582 h_583 h_584 h_585 h_586 h_587 h_588 h_589 h_590 h_591 h_592 hq6 hq7 h_12 h_21 h_37; omega) | omega) (by first | (clear ha2 hq0 hq1 hq2 hq3 hq4 hq8 h_1 h_2 h_3 h_4 h_5 h_6 h_7 h_8 h_9 h_10 h_11 h_46 h_65 h_66 h_70 h_75 h_76 h_81 h_82 h_87 h_88 h_93 h_431 h_579 h_580 h_581 h_582 h_583 h_584 h_585 h_586 h_587 h_588 h_589 h_590 h_591 h_592 hq6 hq7 h_12 h_21 h_37; omega) | omega)).trans (rfl)) rfl (fun c_597 hI_598 hF_599 h_600 => ?_))
                refine bk_inl ?_
                refine v_bip rfl (by decide) ?_
                refine v_ic_ne_t (t := 45) rfl (by decide) ⟨by first | (clear ha2 hq0 hq1 hq2 hq3 hq8 h_3 h_4 h_5 h_6 h_7 h_8 h_9 h_11 h_65 h_66 h_70 h_75 h_76 h_81 h_82 h_87 h_88 h_93 h_431 h_579 h_580 h_581 h_582 h_583 h_584 h_585 h_586 h_587 h_588 h_589 h_590 h_591 h_592; omega) | omega, ⟨h_596.1, h_596.2⟩, by decide, by decide⟩ ?_
                refine q_aload_n rfl rfl ?_
                have kn_601 : Hid (c_597 41 3 = e1) := (hF_599 41 3 (fun h => absurd h.2 (ni rfl))).trans (hr_e1)
                refine v_cv rfl rfl rfl rfl (by decide) ⟨⟨rfl, rfl⟩, by decide, rfl⟩ (Nat.le_of_ble_eq_true rfl) (Nat.le_of_ble_eq_true rfl) (f_154 (e1 := e1) (a9 := (nx F e1 p0)) (B := H) (r8 := (nx F e1 p0)) (r := (hb H e1 (nx F e1 p0))) hI_598 ((hid kn_601)) ((h_600)) (fun j => (hF_599 43 j (fun h => absurd h.1 (nn rfl))).trans (hH j)) ((nx_tr hU (by first | (clear ha2 hq0 hq1 hq2 hq3 hq4 hq5 hq8 h_1 h_2 h_3 h_4 h_6 h_7 h_8 h_9 h_11 h_46 h_65 h_66 h_70 h_75 h_76 h_81 h_82 h_87 h_88 h_93 h_431 h_579 h_580 h_581 h_582 h_583 h_584 h_585 h_586 h_587 h_588 h_589 h_590 h_591 h_592 h_593 h_594 h_596 hq6 hq7 h_12 h_21 h_37 h_595; omega) | omega) (by first | (clear ha2 hq0 hq1 hq2 hq3 hq4 hq8 h_1 h_2 h_3 h_4 h_5 h_6 h_7 h_8 h_9 h_10 h_11 h_46 h_65 h_66 h_70 h_75 h_76 h_81 h_82 h_87 h_88 h_93 h_431 h_579 h_580 h_581 h_582 h_583 h_584 h_585 h_586 h_587 h_588 h_589 h_590 h_591 h_592 h_593 h_594 h_596 hq6 hq7 h_12 h_21 h_37 h_595; omega) | omega)).trans ((nx_z (by omega)))) rfl (fun c_602 hI_603 hF_604 h_605 => ?_))
                refine bk_inl ?_
                refine q_call rfl rfl rfl rfl (f_156 (a0 := (hb H e1 (nx F e1 p0))) hI_603 (show (-2147483648) ≤ (hb H e1 (nx F e1 p0)) ∧ (hb H e1 (nx F e1 p0)) ≤ 2147483647 from h_596) (fun y_606 hy_606 h_607 => ?_))
                refine bk_inl ?_
                refine v_if_eq_t (t := 71) rfl (by decide) (by first | (clear ha2 hq0 hq1 hq2 hq3 hq8 h_3 h_4 h_5 h_6 h_7 h_8 h_9 h_11 h_65 h_66 h_70 h_75 h_76 h_81 h_82 h_87 h_88 h_93 h_431 h_579 h_580 h_581 h_582 h_583 h_584 h_585 h_586 h_587 h_588 h_589 h_590 h_591 h_592; omega) | omega) ?_
                refine q_aload_n rfl rfl ?_
                have kn_608 : Hid (c_602 41 3 = e1) := (hF_604 41 3 (fun h => absurd h.2 (ni rfl))).trans (hid kn_601)
                have h_609 := wv_bd (b := F) (r := (nx F e1 p0)) (l := (ln F e1 (nx F e1 p0))) (fun j h1 h2 => ⟨(ln_in (e := e1) (a := (nx F e1 p0)) h1 h2).1, (ln_in (e := e1) (a := (nx F e1 p0)) h1 h2).2.1⟩)
                have h_610 := wr1_8 (b := F) (r := (nx F e1 p0)) (l := (ln F e1 (nx F e1 p0))) (by omega) (fun j h1 h2 => ⟨(ln_in (e := e1) (a := (nx F e1 p0)) h1 h2).1, (ln_in (e := e1) (a := (nx F e1 p0)) h1 h2).2.1⟩) (by omega)
                have h_611 : (wv F (nx F e1 p0) (ln F e1 (nx F e1 p0))) = 12748404 → (ln F e1 (nx F e1 p0)) - (nx F e1 p0) = 5 := wl_least (by omega) (fun j h1 h2 => ⟨(ln_in (e := e1) (a := (nx F e1 p0)) h1 h2).1, (ln_in (e := e1) (a := (nx F e1 p0)) h1 h2).2.1⟩)
                refine v_cv rfl rfl rfl rfl (by decide) ⟨⟨rfl, rfl⟩, by decide, rfl⟩ (Nat.le_of_ble_eq_true rfl) (Nat.le_of_ble_eq_true rfl) (f_157 (e1 := e1) (a9 := (nx F e1 p0)) (B := H) (r8 := (nx F e1 p0)) (L8 := (ln F e1 (nx F e1 p0))) (W8 := (wv F (nx F e1 p0) (ln F e1 (nx F e1 p0)))) hI_603 ((hid kn_608)) ((h_605)) (fun j => ((hF_604 43 j (fun h => absurd h.1 (nn rfl))).trans (hF_599 43 j (fun h => absurd h.1 (nn rfl)))).trans (hH j)) ((nx_tr hU (by first | (clear ha2 hq0 hq1 hq2 hq3 hq4 hq5 hq8 h_1 h_2 h_3 h_4 h_6 h_7 h_8 h_9 h_11 h_46 h_65 h_66 h_70 h_75 h_76 h_81 h_82 h_87 h_88 h_93 h_431 h_579 h_580 h_581 h_582 h_583 h_584 h_585 h_586 h_587 h_588 h_589 h_590 h_591 h_592 h_593 h_594 h_596 hq6 hq7 h_12 h_21 h_37 h_595 h_607; omega) | omega) (by first | (clear ha2 hq0 hq1 hq2 hq3 hq4 hq8 h_1 h_2 h_3 h_4 h_5 h_6 h_7 h_8 h_9 h_10 h_11 h_46 h_65 h_66 h_70 h_75 h_76 h_81 h_82 h_87 h_88 h_93 h_431 h_579 h_580 h_581 h_582 h_583 h_584 h_585 h_586 h_587 h_588 h_589 h_590 h_591 h_592 h_593 h_594 h_596 hq6 hq7 h_12 h_21 h_37 h_595 h_607; omega) | omega)).trans ((nx_z (by omega)))) ((ln_tr hU (by first | (clear ha2 hq0 hq1 hq2 hq3 hq4 hq5 hq8 h_1 h_2 h_3 h_4 h_6 h_7 h_8 h_9 h_11 h_46 h_65 h_66 h_70 h_75 h_76 h_81 h_82 h_87 h_88 h_93 h_431 h_579 h_580 h_581 h_582 h_583 h_584 h_585 h_586 h_587 h_588 h_589 h_590 h_591 h_592 h_593 h_594 h_596 hq6 hq7 h_12 h_21 h_37 h_595 h_607; omega) | omega) (by first | (clear ha2 hq0 hq1 hq2 hq3 hq4 hq8 h_1 h_2 h_3 h_4 h_5 h_6 h_7 h_8 h_9 h_10 h_11 h_46 h_65 h_66 h_70 h_75 h_76 h_81 h_82 h_87 h_88 h_93 h_431 h_579 h_580 h_581 h_582 h_583 h_584 h_585 h_586 h_587 h_588 h_589 h_590 h_591 h_592 h_593 h_594 h_596 hq6 hq7 h_12 h_21 h_37 h_595 h_607; omega) | omega)).trans (rfl)) ((wv_tr hU (by first | (clear ha2 hq0 hq1 hq2 hq3 hq4 hq5 hq8 h_1 h_2 h_3 h_4 h_6 h_7 h_8 h_9 h_11 h_46 h_65 h_66 h_70 h_75 h_76 h_81 h_82 h_87 h_88 h_93 h_431 h_579 h_580 h_581 h_582 h_583 h_584 h_585 h_586 h_587 h_588 h_589 h_590 h_591 h_592 h_593 h_594 h_596 h_609 h_611 hq6 hq7 h_12 h_21 h_37 h_595 h_607; omega) | omega) (by first | (clear ha2 hq0 hq1 hq2 hq3 hq4 hq8 h_1 h_2 h_3 h_4 h_5 h_6 h_7 h_8 h_9 h_10 h_11 h_65 h_66 h_70 h_75 h_76 h_81 h_82 h_87 h_88 h_93 h_431 h_579 h_580 h_581 h_582 h_583 h_584 h_585 h_586 h_587 h_588 h_589 h_590 h_591 h_592 h_593 h_594 h_596 h_609 h_611 hq6 hq7 h_12 h_21 h_37 h_595 h_607; omega) | omega) (fun j h1 h2 => ⟨(ln_in (e := e1) (a := (nx F e1 p0)) h1 h2).1, (ln_in (e := e1) (a := (nx F e1 p0)) h1 h2).2.1⟩)).trans (rfl)) (fun c_612 hI_613 hF_614 hz_615 => ?_))
                refine bk_inl ?_
                refine q_ldc_w_s rfl rfl rfl (by decide) ?_
                refine q_call rfl rfl rfl rfl (s_158_20 ?_)
                refine bk_inl ?_
                refine v_ic_ne_f (t := 94) rfl (by decide) (by first | (clear ha2 hq0 hq1 hq2 hq3 hq4 hq5 hq8 h_1 h_2 h_3 h_4 h_5 h_6 h_7 h_8 h_9 h_10 h_11 h_46 h_65 h_66 h_70 h_75 h_76 h_81 h_82 h_87 h_88 h_93 h_431 h_579 h_580 h_581 h_582 h_583 h_584 h_585 h_586 h_587 h_588 h_589 h_590 h_591 h_592 h_593 h_594 h_596 h_609 hq6 hq7 h_12 h_21 h_37 h_595 h_607; omega) | omega) ?_
                refine q_aload_n rfl rfl ?_
                refine q_iconst rfl ?_
                refine v_bip rfl (by decide) ?_
                refine v_cv rfl rfl rfl rfl (by decide) ⟨⟨rfl, rfl⟩, by decide, rfl⟩ (Nat.le_of_ble_eq_true rfl) (Nat.le_of_ble_eq_true rfl) ?_
                refine q_aload_n rfl rfl ?_
                refine q_iload_n rfl rfl ?_
                refine v_cv rfl rfl rfl rfl (by decide) ⟨⟨rfl, rfl⟩, by decide, rfl⟩ (Nat.le_of_ble_eq_true rfl) (Nat.le_of_ble_eq_true rfl) ?_
                refine q_aload_n rfl rfl ?_
                refine v_cv rfl rfl rfl rfl (by decide) ⟨⟨rfl, rfl⟩, by decide, rfl⟩ (Nat.le_of_ble_eq_true rfl) (Nat.le_of_ble_eq_true rfl) ?_
                refine q_aload_n rfl rfl ?_
                have kn_616 : Hid (c_597 41 5 = (-1)) := (hF_599 41 5 (fun h => absurd h.2 (ni rfl))).trans hro_hRt.2.1
                have kn_617 : Hid (c_602 41 5 = (-1)) := (hF_604 41 5 (fun h => absurd h.2 (ni rfl))).trans (hid kn_616)
                have kn_618 : Hid (c_612 41 5 = (-1)) := (hF_614 41 5 (fun h => absurd h.2 (ni rfl))).trans (hid kn_617)
                refine v_gi (z := 5) (v := (-1)) rfl rfl rfl (by decide) rfl rfl (hid kn_618) ?_
                refine q_iconst rfl ?_
                refine v_ic_ne_f (t := 12) rfl (by decide) (by decide) ?_
                refine q_iconst rfl ?_
                refine q_goto (t := 13) rfl (by decide) ?_
                refine v_zret rfl rfl (by decide) ?_
                refine bk_inl ?_
                refine v_if_eq_f (t := 25) rfl (by decide) (by decide) ?_
                refine q_aload_n rfl rfl ?_
                have kn_619 : Hid (c_597 41 7 = o0) := (hF_599 41 7 (fun h => absurd h.2 (ni rfl))).trans (hr_o0)
                have kn_620 : Hid (c_602 41 7 = o0) := (hF_604 41 7 (fun h => absurd h.2 (ni rfl))).trans (hid kn_619)
                have kn_621 : Hid (c_612 41 7 = o0) := (hF_614 41 7 (fun h => absurd h.2 (ni rfl))).trans (hid kn_620)
                refine v_gi (z := 7) (v := o0) rfl rfl rfl (by decide) rfl rfl (hid kn_621) ?_
                refine v_bip rfl (by decide) ?_
                refine v_ic_ne_t (t := 25) rfl (by decide) ⟨by first | (clear ha2 hq0 hq1 hq3 hq4 hq5 hq8 h_1 h_2 h_3 h_4 h_5 h_6 h_7 h_8 h_9 h_10 h_11 h_46 h_65 h_66 h_75 h_76 h_81 h_82 h_87 h_88 h_93 h_431 h_579 h_580 h_581 h_582 h_583 h_584 h_585 h_586 h_587 h_588 h_589 h_590 h_591 h_592 h_593 h_594 h_596 h_609 h_611 hq6 hq7 h_12 h_21 h_37 h_595 h_607; omega) | omega, ⟨(Int.le_trans (by decide) (rg_eq hr_o0 h_8).1), (Int.le_trans (rg_eq hr_o0 h_8).2 (by decide))⟩, by decide, by decide⟩ ?_
                refine q_aload_n rfl rfl ?_
                refine v_cv rfl rfl rfl rfl (by decide) ⟨⟨rfl, rfl⟩, by decide, rfl⟩ (Nat.le_of_ble_eq_true rfl) (Nat.le_of_ble_eq_true rfl) ?_
                refine q_aload_n rfl rfl ?_
                refine v_gi (z := 5) (v := (-1)) rfl rfl rfl (by decide) rfl rfl (hid kn_618) ?_
                refine q_iconst rfl ?_
                refine v_ic_ne_f (t := 12) rfl (by decide) (by decide) ?_
                refine q_iconst rfl ?_
                refine q_goto (t := 13) rfl (by decide) ?_
                refine v_zret rfl rfl (by decide) ?_
                refine bk_inl ?_
                refine v_if_eq_f (t := 42) rfl (by decide) (by decide) ?_
                refine q_aload_n rfl rfl ?_
                refine q_dup rfl rfl ?_
                refine v_gi (z := 4) (v := (nx F e1 p0)) rfl rfl rfl (by decide) rfl rfl (hz_615) ?_
                refine q_iload_n rfl rfl ?_
                refine v_iadd (v := (nx F e1 p0) + 5) rfl rfl ?_
                refine v_pi (z := 4) rfl rfl rfl (by decide) rfl rfl rfl (by decide) ?_
                refine q_aload_n rfl rfl ?_
                refine q_dup rfl rfl ?_
                refine v_gi (z := 7) (v := o0) rfl rfl rfl (by decide) rfl rfl ((up_n (by decide)).trans (hid kn_621)) ?_
                refine q_iconst rfl ?_
                refine v_iadd (v := o0 + 1) rfl rfl ?_
                refine v_pi (z := 7) rfl rfl rfl (by decide) rfl rfl rfl (by decide) ?_
                refine q_vret rfl rfl ?_
                refine bk_inl ?_
                refine q_aload_n rfl rfl ?_
                refine v_bip rfl (by decide) ?_
                have hI_622 := iw_41_4 (v := (nx F e1 p0) + 5) hI_613 ⟨by first | exact rgp_l (rg_be h_10 ((rg_eq hg_p0 h_5).1) ((rg_eq hg_e1 h_1).2)).1 (by decide) | omega, by first | exact rgp_h (rg_be h_10 ((rg_eq hg_p0 h_5).1) ((rg_eq hg_e1 h_1).2)).2 (by decide) | omega⟩
                have hI_623 := iw_41_7 (v := o0 + 1) hI_622 ⟨by first | exact rgp_l (rg_eq hr_o0 h_8).1 (by decide) | omega, by first | (clear ha2 hq0 hq1 hq3 hq4 hq5 hq8 h_1 h_2 h_3 h_4 h_5 h_6 h_7 h_8 h_9 h_10 h_11 h_46 h_65 h_66 h_75 h_76 h_81 h_82 h_87 h_88 h_93 h_431 h_579 h_580 h_581 h_582 h_583 h_584 h_585 h_586 h_587 h_588 h_589 h_590 h_591 h_592 h_593 h_594 h_596 h_609 h_611 hq6 hq7 h_12 h_21 h_37 h_595 h_607; omega) | omega⟩
                have kn_624 : Hid (c_62 1 1 = e1) := (hF_64 1 1 (fun q => q.elim (fun h => absurd h.2 (ni rfl)) (fun q => q.elim (fun h => absurd h.2 (ni rfl)) (fun h => absurd h.2 (ni rfl))))).trans (hid kn_39)
                have kn_625 : Hid (c_612 41 3 = e1) := (hF_614 41 3 (fun h => absurd h.2 (ni rfl))).trans (hid kn_608)
                have h_626 : c_62 1 4 = 0 := (hz_68)
                have h_627 : c_62 1 2 = (ln F e1 (nx F e1 p0)) := (hz_67)
                have h_628 : c_62 1 5 = g0 := (hz_69)
                have h_629 : (up (up c_612 41 4 ((nx F e1 p0) + 5)) 41 7 (o0 + 1)) 41 5 = (-1) := ((up_n (by decide)).trans ((up_n (by decide)).trans (hid kn_618)))
                have h_630 : (up (up c_612 41 4 ((nx F e1 p0) + 5)) 41 7 (o0 + 1)) 41 4 = (nx F e1 p0) + 5 := ((up_n (by decide)).trans (up_e rfl))
                have kn_631 : Hid (c_597 41 6 = c 41 6) := hF_599 41 6 (fun h => absurd h.2 (ni rfl))
                have kn_632 : Hid (c_602 41 6 = c 41 6) := (hF_604 41 6 (fun h => absurd h.2 (ni rfl))).trans (hid kn_631)
                have kn_633 : Hid (c_612 41 6 = c 41 6) := (hF_614 41 6 (fun h => absurd h.2 (ni rfl))).trans (hid kn_632)
                have h_634 : (up (up c_612 41 4 ((nx F e1 p0) + 5)) 41 7 (o0 + 1)) 41 6 = c 41 6 := ((up_n (by decide)).trans ((up_n (by decide)).trans (hid kn_633)))
                refine v_cv rfl rfl rfl rfl (by decide) ⟨⟨rfl, rfl⟩, by decide, rfl⟩ (Nat.le_of_ble_eq_true rfl) (Nat.le_of_ble_eq_true rfl) (L_11_3 (m := c_62) (e1 := e1) (a9 := (ln F e1 (nx F e1 p0))) (f0 := 0) (F := F) (H := H) hI_623 hI_63 hI_72 ((hid kn_624)) (((up_n (by decide)).trans ((up_n (by decide)).trans (hid kn_625)))) ((hz_67)) ((hz_68)) (fun j => ((hF_64 2 j (fun q => q.elim (fun h => absurd h.1 (nn rfl)) (fun q => q.elim (fun h => absurd h.1 (nn rfl)) (fun h => absurd h.1 (nn rfl))))).trans ((hF_36 2 j (fun h => absurd h.1 (nn rfl))).trans ((hF_26 2 j (fun h => absurd h.1 (nn rfl))).trans (hF_20 2 j (fun h => absurd h.1 (nn rfl)))))).trans (hF j)) (fun j => ((up_c (nn rfl)).trans ((up_c (nn rfl)).trans ((hF_614 43 j (fun h => absurd h.1 (nn rfl))).trans ((hF_604 43 j (fun h => absurd h.1 (nn rfl))).trans (hF_599 43 j (fun h => absurd h.1 (nn rfl))))))).trans (hH j)) hU (rt_i1 ⟨by first | (clear ha2 hq0 hq1 hq2 hq3 hq4 hq5 hq8 h_1 h_2 h_3 h_4 h_5 h_6 h_7 h_8 h_9 h_10 h_11 h_46 h_65 h_66 h_70 h_75 h_76 h_81 h_82 h_87 h_88 h_93 h_431 h_579 h_580 h_581 h_582 h_583 h_584 h_585 h_586 h_587 h_588 h_589 h_590 h_591 h_592 h_593 h_594 h_596 h_609 h_611 hq6 hq7 h_12 h_21 h_37 h_595 h_607; omega) | omega, by first | (clear ha2 hq0 hq1 hq2 hq3 hq4 hq5 hq8 h_1 h_2 h_3 h_4 h_5 h_6 h_7 h_8 h_9 h_10 h_11 h_46 h_65 h_66 h_70 h_75 h_76 h_81 h_82 h_87 h_88 h_93 h_431 h_579 h_580 h_581 h_582 h_583 h_584 h_585 h_586 h_587 h_588 h_589 h_590 h_591 h_592 h_593 h_594 h_596 h_609 h_611 hq6 hq7 h_12 h_21 h_37 h_595 h_607; omega) | omega, by first | (clear ha2 hq0 hq1 hq2 hq3 hq4 hq5 hq8 h_1 h_2 h_3 h_4 h_5 h_6 h_7 h_8 h_9 h_10 h_11 h_46 h_65 h_66 h_70 h_75 h_76 h_81 h_82 h_87 h_88 h_93 h_431 h_579 h_580 h_581 h_582 h_583 h_584 h_585 h_586 h_587 h_588 h_589 h_590 h_591 h_592 h_593 h_594 h_596 h_609 hq6 hq7 h_12 h_21 h_37 h_595 h_607; omega) | omega, by first | (clear ha2 hq0 hq2 hq3 hq4 hq5 hq8 h_1 h_2 h_3 h_4 h_5 h_6 h_7 h_8 h_9 h_10 h_11 h_46 h_65 h_66 h_70 h_75 h_76 h_81 h_82 h_87 h_88 h_93 h_431 h_579 h_580 h_581 h_582 h_583 h_584 h_585 h_586 h_587 h_588 h_589 h_590 h_591 h_592 h_593 h_594 h_596 h_609 h_611 hq6 hq7 h_12 h_21 h_37 h_595 h_607; omega) | omega⟩) hG_74 (fun c_635 hI_636 hF_637 hR_639 h_640 h_641 => ?_))
                refine bk_inl ?_
                have h_642 := ir_1_2 hI_72
                refine q_aload_n rfl rfl ?_
                have h_643 := ir_41_5 hI_636
                have h_644 := ir_1_5 hI_72
                have h_645 := ir_41_4 hI_636
                have h_646 := ir_41_6 hI_636
                have h_647 := rt_ok hR_639 (by omega)
                have hro_hR_639 := rt_ok hR_639 (by omega)
                have kn_648 : Hid (c_71 1 1 = e1) := (hF_73 1 1 (fun q => q.elim (fun h => absurd h.2 (ni rfl)) (fun q => q.elim (fun h => absurd h.2 (ni rfl)) (fun h => absurd h.2 (ni rfl))))).trans (hid kn_624)
                have kn_649 : Hid (c_635 41 3 = e1) := (hF_637 41 3 (fun q => q.elim (fun h => absurd h.2 (ni rfl)) (fun q => q.elim (fun h => absurd h.2 (ni rfl)) (fun h => absurd h.2 (ni rfl))))).trans ((up_n (by decide)).trans ((up_n (by decide)).trans (hid kn_625)))
                have kn_650 : Hid (c_18 (A + 7) 5 = n0) := (hF_20 (A + 7) 5 (fun h => absurd h.1 (np hA rfl rfl))).trans (hg_n0)
                have kn_651 : Hid (c_24 (A + 7) 5 = n0) := (hF_26 (A + 7) 5 (fun h => absurd h.1 (np hA rfl rfl))).trans (hid kn_650)
                have kn_652 : Hid (c_34 (A + 7) 5 = n0) := (hF_36 (A + 7) 5 (fun h => absurd h.1 (np hA rfl rfl))).trans (hid kn_651)
                have kn_653 : Hid (c_62 (A + 7) 5 = n0) := (hF_64 (A + 7) 5 (fun q => q.elim (fun h => absurd h.1 (np hA rfl rfl)) (fun q => q.elim (fun h => absurd h.1 (np hA rfl rfl)) (fun h => absurd h.1 (np hA rfl rfl))))).trans (hid kn_652)
                have kn_654 : Hid (c_71 (A + 7) 5 = n0) := (hF_73 (A + 7) 5 (fun q => q.elim (fun h => absurd h.1 (np hA rfl rfl)) (fun q => q.elim (fun h => absurd h.1 (np hA rfl rfl)) (fun h => absurd h.1 (np hA rfl rfl))))).trans (hid kn_653)
                have kn_655 : Hid (c_597 41 29 = n0) := (hF_599 41 29 (fun h => absurd h.2 (ni rfl))).trans (hr_n0)
                have kn_656 : Hid (c_602 41 29 = n0) := (hF_604 41 29 (fun h => absurd h.2 (ni rfl))).trans (hid kn_655)
                have kn_657 : Hid (c_612 41 29 = n0) := (hF_614 41 29 (fun h => absurd h.2 (ni rfl))).trans (hid kn_656)
                have kn_658 : Hid (c_635 41 29 = n0) := (hF_637 41 29 (fun q => q.elim (fun h => absurd h.2 (ni rfl)) (fun q => q.elim (fun h => absurd h.2 (ni rfl)) (fun h => absurd h.2 (ni rfl))))).trans ((up_n (by decide)).trans ((up_n (by decide)).trans (hid kn_657)))
                have kn_659 : Hid (c_635 41 7 = o0 + 1) := (hF_637 41 7 (fun q => q.elim (fun h => absurd h.2 (ni rfl)) (fun q => q.elim (fun h => absurd h.2 (ni rfl)) (fun h => absurd h.2 (ni rfl))))).trans (up_e rfl)
                have hA_660 : Ce n0 (c_71 (A + 9)) (c_635 50) (c_635 51) := ce_fr hr0 (fun j => (hF_73 (A + 9) j (fun q => q.elim (fun h => absurd h.1 (np hA rfl rfl)) (fun q => q.elim (fun h => absurd h.1 (np hA rfl rfl)) (fun h => absurd h.1 (np hA rfl rfl))))).trans ((hF_64 (A + 9) j (fun q => q.elim (fun h => absurd h.1 (np hA rfl rfl)) (fun q => q.elim (fun h => absurd h.1 (np hA rfl rfl)) (fun h => absurd h.1 (np hA rfl rfl))))).trans ((hF_36 (A + 9) j (fun h => absurd h.1 (np hA rfl rfl))).trans ((hF_26 (A + 9) j (fun h => absurd h.1 (np hA rfl rfl))).trans (hF_20 (A + 9) j (fun h => absurd h.1 (np hA rfl rfl))))))) (fun j => (hF_637 50 j (fun q => q.elim (fun h => absurd h.1 (nn rfl)) (fun q => q.elim (fun h => absurd h.1 (nn rfl)) (fun h => absurd h.1 (nn rfl))))).trans ((up_c (nn rfl)).trans ((up_c (nn rfl)).trans ((hF_614 50 j (fun h => absurd h.1 (nn rfl))).trans ((hF_604 50 j (fun h => absurd h.1 (nn rfl))).trans (hF_599 50 j (fun h => absurd h.1 (nn rfl)))))))) (fun j => (hF_637 51 j (fun q => q.elim (fun h => absurd h.1 (nn rfl)) (fun q => q.elim (fun h => absurd h.1 (nn rfl)) (fun h => absurd h.1 (nn rfl))))).trans ((up_c (nn rfl)).trans ((up_c (nn rfl)).trans ((hF_614 51 j (fun h => absurd h.1 (nn rfl))).trans ((hF_604 51 j (fun h => absurd h.1 (nn rfl))).trans (hF_599 51 j (fun h => absurd h.1 (nn rfl))))))))
                refine v_cv rfl rfl rfl rfl (by decide) ⟨⟨rfl, rfl⟩, by decide, rfl⟩ (Nat.le_of_ble_eq_true rfl) (Nat.le_of_ble_eq_true rfl) (H13 (m := c_71) (e1 := e1) (f0 := c_71 1 4) (g0 := c_71 1 5) (p0 := c_71 1 2) (n0 := n0) (o0 := o0 + 1) (by omega) (by omega) hI_636 hI_72 hI_78 (show 0 ≤ a2 + 1 ∧ a2 + 1 ≤ 6 from ⟨by first | exact rgp_l ha2.1 (by decide) | omega, by first | (clear ha2 hq0 hq1 hq2 hq3 hq4 hq5 hq8 h_1 h_2 h_3 h_4 h_5 h_6 h_7 h_8 h_9 h_10 h_11 h_46 h_65 h_66 h_75 h_76 h_81 h_82 h_87 h_88 h_93 h_431 h_579 h_580 h_581 h_582 h_583 h_584 h_585 h_586 h_587 h_588 h_589 h_590 h_591 h_592 h_593 h_594 h_596 h_609 h_611 h_642 h_643 h_644 h_645 h_646 h_647 hq6 hq7 h_12 h_21 h_37 h_595 h_607 h_640 h_641; omega) | omega⟩) (by first | (clear ha2 hq0 hq1 hq2 hq3 hq4 hq5 hq8 h_1 h_2 h_3 h_4 h_5 h_6 h_7 h_8 h_9 h_10 h_11 h_46 h_65 h_66 h_70 h_81 h_82 h_87 h_88 h_93 h_431 h_579 h_580 h_581 h_582 h_583 h_584 h_585 h_586 h_587 h_588 h_589 h_590 h_591 h_592 h_593 h_594 h_596 h_609 h_611 h_642 h_643 h_644 h_645 h_646 h_647 hq6 hq7 h_12 h_21 h_37 h_595 h_607 h_640 h_641; omega) | omega) (by first | (clear ha2 hq0 hq1 hq2 hq3 hq4 hq5 hq8 h_1 h_2 h_3 h_4 h_5 h_6 h_7 h_8 h_9 h_10 h_11 h_46 h_65 h_66 h_70 h_75 h_76 h_81 h_82 h_87 h_88 h_93 h_431 h_579 h_580 h_581 h_582 h_583 h_584 h_585 h_586 h_587 h_588 h_589 h_590 h_591 h_592 h_593 h_594 h_596 h_609 h_611 h_642 h_643 h_645 h_646 hq6 hq7 h_12 h_21 h_37 h_595 h_607 h_640 h_641; omega) | omega) (by first | (clear ha2 hq0 hq1 hq3 hq4 hq5 hq8 h_1 h_2 h_3 h_4 h_5 h_6 h_7 h_8 h_9 h_10 h_11 h_46 h_65 h_66 h_70 h_75 h_76 h_81 h_82 h_87 h_88 h_93 h_431 h_579 h_580 h_581 h_582 h_583 h_584 h_585 h_586 h_587 h_588 h_589 h_590 h_591 h_592 h_593 h_594 h_596 h_609 h_611 h_642 h_643 h_644 h_645 h_646 h_647 hq6 hq7 h_12 h_21 h_37 h_595 h_607 h_640 h_641; omega) | omega) (by first | (clear ha2 hq0 hq1 hq2 hq8 h_3 h_4 h_8 h_9 h_11 h_65 h_66 h_70 h_81 h_82 h_87 h_88 h_93 h_431 h_579 h_580 h_581 h_582 h_583 h_584 h_585 h_586 h_587 h_588 h_589 h_590 h_591 h_592 h_593 h_594 h_596 h_609 h_646 h_607; omega) | omega) (by first | (clear ha2 hq0 hq1 hq2 hq3 hq8 h_3 h_4 h_5 h_6 h_7 h_8 h_9 h_11 h_65 h_66 h_70 h_75 h_76 h_81 h_82 h_87 h_88 h_93 h_431 h_579 h_580 h_581 h_582 h_583 h_584 h_585 h_586 h_587 h_588 h_589 h_590 h_591 h_592 h_593 h_594 h_596 h_609 h_611 h_643 h_644 h_645 h_646 h_607 h_641; omega) | omega) (by first | (clear ha2 hq0 hq1 hq2 hq3 hq4 hq8 h_1 h_2 h_3 h_4 h_5 h_6 h_7 h_8 h_9 h_10 h_11 h_46 h_65 h_66 h_70 h_75 h_76 h_81 h_82 h_87 h_88 h_93 h_431 h_579 h_580 h_581 h_582 h_583 h_584 h_585 h_586 h_587 h_588 h_589 h_590 h_591 h_592 h_593 h_594 h_596 h_609 h_611 h_642 h_643 h_644 h_645 h_646 h_647 hq6 hq7 h_12 h_21 h_37 h_595 h_607 h_640 h_641; omega) | omega) ((hid kn_648)) ((hid kn_649)) (rfl) (rfl) (rfl) ((hid kn_654)) ((hid kn_658)) ((hid kn_659)) (fun j => ((hF_73 2 j (fun q => q.elim (fun h => absurd h.1 (nn rfl)) (fun q => q.elim (fun h => absurd h.1 (nn rfl)) (fun h => absurd h.1 (nn rfl))))).trans ((hF_64 2 j (fun q => q.elim (fun h => absurd h.1 (nn rfl)) (fun q => q.elim (fun h => absurd h.1 (nn rfl)) (fun h => absurd h.1 (nn rfl))))).trans ((hF_36 2 j (fun h => absurd h.1 (nn rfl))).trans ((hF_26 2 j (fun h => absurd h.1 (nn rfl))).trans (hF_20 2 j (fun h => absurd h.1 (nn rfl))))))).trans (hF j)) (fun j => ((hF_637 43 j (fun q => q.elim (fun h => absurd h.1 (nn rfl)) (fun q => q.elim (fun h => absurd h.1 (nn rfl)) (fun h => absurd h.1 (nn rfl))))).trans ((up_c (nn rfl)).trans ((up_c (nn rfl)).trans ((hF_614 43 j (fun h => absurd h.1 (nn rfl))).trans ((hF_604 43 j (fun h => absurd h.1 (nn rfl))).trans (hF_599 43 j (fun h => absurd h.1 (nn rfl)))))))).trans (hH j)) hU hR_639 (ce_le hA_660 (by omega)) hG_80 (fun c_661 hI_662 hF_663 hR_665 h_666 h_667 hA_668 => ?_))
                refine bk_inl ?_
                have h_669 := ir_41_29 hI_662
                have h_670 := ir_p7_5 hI_78 hA
                have h_671 := ir_1_2 hI_78
                have h_672 := ir_41_7 hI_662
                refine q_aload_n rfl rfl ?_
                refine v_bip rfl (by decide) ?_
                have h_673 := ir_41_5 hI_662
                have h_674 := ir_1_5 hI_78
                have h_675 := ir_41_4 hI_662
                have h_676 := ir_41_6 hI_662
                have h_677 := rt_ok hR_665 (by omega)
                have hro_hR_665 := rt_ok hR_665 (by omega)
                have kn_678 : Hid (c_77 1 1 = e1) := (hF_79 1 1 (fun q => q.elim (fun h => absurd h.2 (ni rfl)) (fun q => q.elim (fun h => absurd h.2 (ni rfl)) (fun q => q.elim (fun h => absurd h.2 (ni rfl)) (fun q => q.elim (fun h => absurd h.1 (pn hA rfl rfl)) (fun h => absurd h (pn hA rfl rfl))))))).trans (hid kn_648)
                have kn_679 : Hid (c_661 41 3 = e1) := (hF_663 41 3 (fun q => q.elim (fun h => absurd h.2 (ni rfl)) (fun q => q.elim (fun h => absurd h.2 (ni rfl)) (fun q => q.elim (fun h => absurd h.2 (ni rfl)) (fun q => q.elim (fun h => absurd h.2 (ni rfl)) (fun q => q.elim (fun h => absurd h.2 (ni rfl)) (fun q => q.elim (fun h => absurd h (nn rfl)) (fun h => absurd h (nn rfl))))))))).trans (hid kn_649)
                refine v_cv rfl rfl rfl rfl (by decide) ⟨⟨rfl, rfl⟩, by decide, rfl⟩ (Nat.le_of_ble_eq_true rfl) (Nat.le_of_ble_eq_true rfl) (L_11_4 (m := c_77) (e1 := e1) (a9 := c_77 1 2) (f0 := c_77 1 4) (F := F) (H := H) hI_662 hI_78 hI_84 ((hid kn_678)) ((hid kn_679)) (rfl) (rfl) (fun j => ((hF_79 2 j (fun q => q.elim (fun h => absurd h.1 (nn rfl)) (fun q => q.elim (fun h => absurd h.1 (nn rfl)) (fun q => q.elim (fun h => absurd h.1 (nn rfl)) (fun q => q.elim (fun h => absurd h.1 (pn hA rfl rfl)) (fun h => absurd h (pn hA rfl rfl))))))).trans ((hF_73 2 j (fun q => q.elim (fun h => absurd h.1 (nn rfl)) (fun q => q.elim (fun h => absurd h.1 (nn rfl)) (fun h => absurd h.1 (nn rfl))))).trans ((hF_64 2 j (fun q => q.elim (fun h => absurd h.1 (nn rfl)) (fun q => q.elim (fun h => absurd h.1 (nn rfl)) (fun h => absurd h.1 (nn rfl))))).trans ((hF_36 2 j (fun h => absurd h.1 (nn rfl))).trans ((hF_26 2 j (fun h => absurd h.1 (nn rfl))).trans (hF_20 2 j (fun h => absurd h.1 (nn rfl)))))))).trans (hF j)) (fun j => ((hF_663 43 j (fun q => q.elim (fun h => absurd h.1 (nn rfl)) (fun q => q.elim (fun h => absurd h.1 (nn rfl)) (fun q => q.elim (fun h => absurd h.1 (nn rfl)) (fun q => q.elim (fun h => absurd h.1 (nn rfl)) (fun q => q.elim (fun h => absurd h.1 (nn rfl)) (fun q => q.elim (fun h => absurd h (nn rfl)) (fun h => absurd h (nn rfl))))))))).trans ((hF_637 43 j (fun q => q.elim (fun h => absurd h.1 (nn rfl)) (fun q => q.elim (fun h => absurd h.1 (nn rfl)) (fun h => absurd h.1 (nn rfl))))).trans ((up_c (nn rfl)).trans ((up_c (nn rfl)).trans ((hF_614 43 j (fun h => absurd h.1 (nn rfl))).trans ((hF_604 43 j (fun h => absurd h.1 (nn rfl))).trans (hF_599 43 j (fun h => absurd h.1 (nn rfl))))))))).trans (hH j)) hU hR_665 hG_86 (fun c_680 hI_681 hF_682 hR_684 h_685 h_686 => ?_))
                refine bk_inl ?_
                have h_687 := ir_1_2 hI_84
                refine q_aload_n rfl rfl ?_
                have h_688 := ir_41_5 hI_681
                have h_689 := ir_1_5 hI_84
                have h_690 := ir_41_4 hI_681
                have h_691 := ir_41_6 hI_681
                have h_692 := rt_ok hR_684 (by omega)
                have hro_hR_684 := rt_ok hR_684 (by omega)
                have kn_693 : Hid (c_83 1 1 = e1) := (hF_85 1 1 (fun q => q.elim (fun h => absurd h.2 (ni rfl)) (fun q => q.elim (fun h => absurd h.2 (ni rfl)) (fun h => absurd h.2 (ni rfl))))).trans (hid kn_678)
                have kn_694 : Hid (c_680 41 3 = e1) := (hF_682 41 3 (fun q => q.elim (fun h => absurd h.2 (ni rfl)) (fun q => q.elim (fun h => absurd h.2 (ni rfl)) (fun h => absurd h.2 (ni rfl))))).trans (hid kn_679)
                have kn_695 : Hid (c_83 (A + 7) 5 = c_77 (A + 7) 5) := hF_85 (A + 7) 5 (fun q => q.elim (fun h => absurd h.1 (np hA rfl rfl)) (fun q => q.elim (fun h => absurd h.1 (np hA rfl rfl)) (fun h => absurd h.1 (np hA rfl rfl))))
                have kn_696 : Hid (c_680 41 29 = c_661 41 29) := hF_682 41 29 (fun q => q.elim (fun h => absurd h.2 (ni rfl)) (fun q => q.elim (fun h => absurd h.2 (ni rfl)) (fun h => absurd h.2 (ni rfl))))
                have kn_697 : Hid (c_680 41 7 = c_661 41 7) := hF_682 41 7 (fun q => q.elim (fun h => absurd h.2 (ni rfl)) (fun q => q.elim (fun h => absurd h.2 (ni rfl)) (fun h => absurd h.2 (ni rfl))))
                have hA_698 : Ce (c_661 41 29) (c_83 (A + 9)) (c_680 50) (c_680 51) := ce_fr (hA_668 (by omega)) (fun j => hF_85 (A + 9) j (fun q => q.elim (fun h => absurd h.1 (np hA rfl rfl)) (fun q => q.elim (fun h => absurd h.1 (np hA rfl rfl)) (fun h => absurd h.1 (np hA rfl rfl))))) (fun j => hF_682 50 j (fun q => q.elim (fun h => absurd h.1 (nn rfl)) (fun q => q.elim (fun h => absurd h.1 (nn rfl)) (fun h => absurd h.1 (nn rfl))))) (fun j => hF_682 51 j (fun q => q.elim (fun h => absurd h.1 (nn rfl)) (fun q => q.elim (fun h => absurd h.1 (nn rfl)) (fun h => absurd h.1 (nn rfl)))))
                have hA_699 : Ce (c_77 (A + 7) 5) (c_83 (A + 9)) (c_680 50) (c_680 51) := ce_le hA_698 (by omega)
                refine v_cv rfl rfl rfl rfl (by decide) ⟨⟨rfl, rfl⟩, by decide, rfl⟩ (Nat.le_of_ble_eq_true rfl) (Nat.le_of_ble_eq_true rfl) (H13 (m := c_83) (e1 := e1) (f0 := c_83 1 4) (g0 := c_83 1 5) (p0 := c_83 1 2) (n0 := c_77 (A + 7) 5) (o0 := c_661 41 7) (by omega) (by omega) hI_681 hI_84 hI_90 (show 0 ≤ a2 + 1 ∧ a2 + 1 ≤ 6 from ⟨by first | exact rgp_l ha2.1 (by decide) | omega, by first | (clear ha2 hq0 hq1 hq2 hq3 hq4 hq5 hq8 h_1 h_2 h_3 h_4 h_5 h_6 h_7 h_8 h_9 h_10 h_11 h_46 h_65 h_66 h_75 h_76 h_81 h_82 h_87 h_88 h_93 h_431 h_579 h_580 h_581 h_582 h_583 h_584 h_585 h_586 h_587 h_588 h_589 h_590 h_591 h_592 h_593 h_594 h_596 h_609 h_611 h_642 h_643 h_644 h_645 h_646 h_647 h_669 h_670 h_671 h_672 h_667 h_673 h_674 h_675 h_676 h_677 h_687 h_688 h_689 h_690 h_691 h_692 hq6 hq7 h_12 h_21 h_37 h_595 h_607 h_640 h_641 h_666 h_685 h_686; omega) | omega⟩) (by first | (clear ha2 hq0 hq1 hq2 hq3 hq4 hq5 hq8 h_1 h_2 h_3 h_4 h_5 h_6 h_7 h_8 h_9 h_10 h_11 h_46 h_65 h_66 h_70 h_75 h_76 h_81 h_82 h_93 h_431 h_579 h_580 h_581 h_582 h_583 h_584 h_585 h_586 h_587 h_588 h_589 h_590 h_591 h_592 h_593 h_594 h_596 h_609 h_611 h_642 h_643 h_644 h_645 h_646 h_647 h_669 h_670 h_671 h_672 h_667 h_673 h_674 h_675 h_676 h_677 h_687 h_688 h_689 h_690 h_691 h_692 hq6 hq7 h_12 h_21 h_37 h_595 h_607 h_640 h_641 h_666 h_685 h_686; omega) | omega) (by first | (clear ha2 hq0 hq1 hq2 hq3 hq4 hq5 hq8 h_1 h_2 h_3 h_4 h_5 h_6 h_7 h_8 h_9 h_10 h_11 h_46 h_65 h_66 h_70 h_75 h_76 h_81 h_82 h_87 h_88 h_93 h_431 h_579 h_580 h_581 h_582 h_583 h_584 h_585 h_586 h_587 h_588 h_589 h_590 h_591 h_592 h_593 h_594 h_596 h_609 h_611 h_642 h_643 h_644 h_645 h_646 h_647 h_669 h_670 h_671 h_672 h_667 h_673 h_674 h_675 h_676 h_677 h_687 h_688 h_690 h_691 hq6 hq7 h_12 h_21 h_37 h_595 h_607 h_640 h_641 h_666 h_685 h_686; omega) | omega) (by first | (clear ha2 hq0 hq1 hq2 hq3 hq4 hq5 hq8 h_1 h_2 h_3 h_4 h_5 h_6 h_7 h_8 h_9 h_10 h_11 h_46 h_65 h_66 h_70 h_75 h_76 h_81 h_82 h_87 h_88 h_93 h_431 h_579 h_580 h_581 h_582 h_583 h_584 h_585 h_586 h_587 h_588 h_589 h_590 h_591 h_592 h_593 h_594 h_596 h_609 h_611 h_642 h_643 h_644 h_645 h_646 h_647 h_669 h_670 h_671 h_672 h_673 h_674 h_675 h_676 h_677 h_687 h_688 h_689 h_690 h_691 h_692 hq6 hq7 h_12 h_21 h_37 h_595 h_607 h_640 h_641 h_666 h_685 h_686; omega) | omega) (by first | (clear ha2 hq0 hq1 hq2 hq8 h_3 h_4 h_5 h_8 h_9 h_11 h_65 h_66 h_70 h_75 h_76 h_93 h_431 h_579 h_580 h_581 h_582 h_583 h_584 h_585 h_586 h_587 h_588 h_589 h_590 h_591 h_592 h_593 h_594 h_596 h_609 h_611 h_643 h_644 h_645 h_646 h_672 h_667 h_673 h_674 h_675 h_676 h_691 h_607 h_641; omega) | omega) (by first | (clear ha2 hq0 hq1 hq2 hq3 hq8 h_3 h_4 h_5 h_6 h_7 h_8 h_9 h_11 h_65 h_66 h_70 h_75 h_76 h_81 h_82 h_87 h_88 h_93 h_431 h_579 h_580 h_581 h_582 h_583 h_584 h_585 h_586 h_587 h_588 h_589 h_590 h_591 h_592 h_593 h_594 h_596 h_609 h_611 h_642 h_643 h_644 h_645 h_646 h_647 h_669 h_670 h_671 h_672 h_667 h_673 h_674 h_675 h_676 h_677 h_688 h_689 h_690 h_691 h_607 h_641 h_686; omega) | omega) (by first | (clear ha2 hq0 hq1 hq2 hq3 hq4 hq8 h_1 h_2 h_3 h_4 h_5 h_6 h_7 h_8 h_9 h_10 h_11 h_46 h_65 h_66 h_70 h_75 h_76 h_81 h_82 h_87 h_88 h_93 h_431 h_579 h_580 h_581 h_582 h_583 h_584 h_585 h_586 h_587 h_588 h_589 h_590 h_591 h_592 h_593 h_594 h_596 h_609 h_611 h_642 h_643 h_644 h_645 h_646 h_647 h_669 h_670 h_671 h_672 h_667 h_673 h_674 h_675 h_676 h_677 h_687 h_688 h_689 h_690 h_691 h_692 hq6 hq7 h_12 h_21 h_37 h_595 h_607 h_640 h_641 h_666 h_685 h_686; omega) | omega) ((hid kn_693)) ((hid kn_694)) (rfl) (rfl) (rfl) ((hid kn_695)) (((show _ = c_661 41 29 from (hid kn_696)).trans (by omega))) ((hid kn_697)) (fun j => ((hF_85 2 j (fun q => q.elim (fun h => absurd h.1 (nn rfl)) (fun q => q.elim (fun h => absurd h.1 (nn rfl)) (fun h => absurd h.1 (nn rfl))))).trans ((hF_79 2 j (fun q => q.elim (fun h => absurd h.1 (nn rfl)) (fun q => q.elim (fun h => absurd h.1 (nn rfl)) (fun q => q.elim (fun h => absurd h.1 (nn rfl)) (fun q => q.elim (fun h => absurd h.1 (pn hA rfl rfl)) (fun h => absurd h (pn hA rfl rfl))))))).trans ((hF_73 2 j (fun q => q.elim (fun h => absurd h.1 (nn rfl)) (fun q => q.elim (fun h => absurd h.1 (nn rfl)) (fun h => absurd h.1 (nn rfl))))).trans ((hF_64 2 j (fun q => q.elim (fun h => absurd h.1 (nn rfl)) (fun q => q.elim (fun h => absurd h.1 (nn rfl)) (fun h => absurd h.1 (nn rfl))))).trans ((hF_36 2 j (fun h => absurd h.1 (nn rfl))).trans ((hF_26 2 j (fun h => absurd h.1 (nn rfl))).trans (hF_20 2 j (fun h => absurd h.1 (nn rfl))))))))).trans (hF j)) (fun j => ((hF_682 43 j (fun q => q.elim (fun h => absurd h.1 (nn rfl)) (fun q => q.elim (fun h => absurd h.1 (nn rfl)) (fun h => absurd h.1 (nn rfl))))).trans ((hF_663 43 j (fun q => q.elim (fun h => absurd h.1 (nn rfl)) (fun q => q.elim (fun h => absurd h.1 (nn rfl)) (fun q => q.elim (fun h => absurd h.1 (nn rfl)) (fun q => q.elim (fun h => absurd h.1 (nn rfl)) (fun q => q.elim (fun h => absurd h.1 (nn rfl)) (fun q => q.elim (fun h => absurd h (nn rfl)) (fun h => absurd h (nn rfl))))))))).trans ((hF_637 43 j (fun q => q.elim (fun h => absurd h.1 (nn rfl)) (fun q => q.elim (fun h => absurd h.1 (nn rfl)) (fun h => absurd h.1 (nn rfl))))).trans ((up_c (nn rfl)).trans ((up_c (nn rfl)).trans ((hF_614 43 j (fun h => absurd h.1 (nn rfl))).trans ((hF_604 43 j (fun h => absurd h.1 (nn rfl))).trans (hF_599 43 j (fun h => absurd h.1 (nn rfl)))))))))).trans (hH j)) hU hR_684 (ce_le hA_699 (by omega)) hG_92 (fun c_700 hI_701 hF_702 hR_704 h_705 h_706 hA_707 => ?_))
                refine bk_inl ?_
                have h_708 := ir_41_29 hI_701
                have h_709 := ir_41_7 hI_701
                refine q_aload_n rfl rfl ?_
                refine v_bip rfl (by decide) ?_
                have h_710 := ir_41_5 hI_701
                have h_711 := ir_41_4 hI_701
                have h_712 := ir_41_6 hI_701
                have h_713 := rt_bad hR_704 (by omega)
                have hrb_hR_704 := rt_bad hR_704 (by omega)
                refine v_cv rfl rfl rfl rfl (by decide) ⟨⟨rfl, rfl⟩, by decide, rfl⟩ (Nat.le_of_ble_eq_true rfl) (Nat.le_of_ble_eq_true rfl) ?_
                refine q_aload_n rfl rfl ?_
                refine v_cv rfl rfl rfl rfl (by decide) ⟨⟨rfl, rfl⟩, by decide, rfl⟩ (Nat.le_of_ble_eq_true rfl) (Nat.le_of_ble_eq_true rfl) ?_
                refine q_aload_n rfl rfl ?_
                refine v_gi (z := 5) (v := c_89 1 5) rfl rfl rfl (by decide) rfl rfl hrb_hR_704.2.1 ?_
                refine q_iconst rfl ?_
                refine v_ic_ne_t (t := 12) rfl (by decide) ⟨by first | (clear ha2 hq0 hq1 hq2 hq3 hq4 hq5 hq8 h_1 h_2 h_3 h_4 h_5 h_6 h_7 h_8 h_9 h_10 h_11 h_46 h_65 h_66 h_70 h_75 h_76 h_81 h_82 h_87 h_88 h_93 h_431 h_579 h_580 h_581 h_582 h_583 h_584 h_585 h_586 h_587 h_588 h_589 h_590 h_591 h_592 h_593 h_594 h_596 h_609 h_611 h_642 h_643 h_644 h_645 h_646 h_647 h_669 h_670 h_671 h_672 h_667 h_673 h_674 h_675 h_676 h_677 h_687 h_688 h_689 h_690 h_691 h_692 h_708 h_709 h_706 h_710 h_711 h_712 hq6 hq7 h_12 h_21 h_37 h_595 h_607 h_640 h_641 h_666 h_685 h_686 h_705; omega) | omega, ⟨(Int.le_trans (by decide) h_584.1), (Int.le_trans h_584.2 (by decide))⟩, by decide, by decide⟩ ?_
                refine q_iconst rfl ?_
                refine v_zret rfl rfl (by decide) ?_
                refine bk_inl ?_
                refine v_if_eq_t (t := 24) rfl (by decide) (by decide) ?_
                refine q_aload_n rfl rfl ?_
                refine v_cv rfl rfl rfl rfl (by decide) ⟨⟨rfl, rfl⟩, by decide, rfl⟩ (Nat.le_of_ble_eq_true rfl) (Nat.le_of_ble_eq_true rfl) ?_
                refine q_aload_n rfl rfl ?_
                refine v_gi (z := 5) (v := c_89 1 5) rfl rfl rfl (by decide) rfl rfl hrb_hR_704.2.1 ?_
                refine q_iconst rfl ?_
                refine v_ic_ne_t (t := 12) rfl (by decide) ⟨by first | (clear ha2 hq0 hq1 hq2 hq3 hq4 hq5 hq8 h_1 h_2 h_3 h_4 h_5 h_6 h_7 h_8 h_9 h_10 h_11 h_46 h_65 h_66 h_70 h_75 h_76 h_81 h_82 h_87 h_88 h_93 h_431 h_579 h_580 h_581 h_582 h_583 h_584 h_585 h_586 h_587 h_588 h_589 h_590 h_591 h_592 h_593 h_594 h_596 h_609 h_611 h_642 h_643 h_644 h_645 h_646 h_647 h_669 h_670 h_671 h_672 h_667 h_673 h_674 h_675 h_676 h_677 h_687 h_688 h_689 h_690 h_691 h_692 h_708 h_709 h_706 h_710 h_711 h_712 hq6 hq7 h_12 h_21 h_37 h_595 h_607 h_640 h_641 h_666 h_685 h_686 h_705; omega) | omega, ⟨(Int.le_trans (by decide) h_584.1), (Int.le_trans h_584.2 (by decide))⟩, by decide, by decide⟩ ?_
                refine q_iconst rfl ?_
                refine v_zret rfl rfl (by decide) ?_
                refine bk_inl ?_
                refine v_if_eq_t (t := 41) rfl (by decide) (by decide) ?_
                refine q_vret rfl rfl ?_
                refine bk_inl ?_
                refine q_aload_n rfl rfl ?_
                refine q_dup rfl rfl ?_
                refine v_gi (z := 7) (v := c_700 41 7) rfl rfl rfl (by decide) rfl rfl rfl ?_
                refine q_iconst rfl ?_
                refine v_isub (v := c_700 41 7 - 1) rfl rfl ?_
                refine v_pi (z := 7) rfl rfl rfl (by decide) rfl rfl rfl (by decide) ?_
                refine q_aload_n rfl rfl ?_
                refine q_iload_n rfl rfl ?_
                refine q_iconst rfl ?_
                refine v_cv rfl rfl rfl rfl (by decide) ⟨⟨rfl, rfl⟩, by decide, rfl⟩ (Nat.le_of_ble_eq_true rfl) (Nat.le_of_ble_eq_true rfl) ?_
                refine q_aload_n rfl rfl ?_
                refine v_cv rfl rfl rfl rfl (by decide) ⟨⟨rfl, rfl⟩, by decide, rfl⟩ (Nat.le_of_ble_eq_true rfl) (Nat.le_of_ble_eq_true rfl) ?_
                refine q_aload_n rfl rfl ?_
                refine v_gi (z := 5) (v := c_89 1 5) rfl rfl rfl (by decide) rfl rfl (((up_n (by decide))).trans (hrb_hR_704.2.1)) ?_
                refine q_iconst rfl ?_
                refine v_ic_ne_t (t := 12) rfl (by decide) ⟨by first | (clear ha2 hq0 hq1 hq2 hq3 hq4 hq5 hq8 h_1 h_2 h_3 h_4 h_5 h_6 h_7 h_8 h_9 h_10 h_11 h_46 h_65 h_66 h_70 h_75 h_76 h_81 h_82 h_87 h_88 h_93 h_431 h_579 h_580 h_581 h_582 h_583 h_584 h_585 h_586 h_587 h_588 h_589 h_590 h_591 h_592 h_593 h_594 h_596 h_609 h_611 h_642 h_643 h_644 h_645 h_646 h_647 h_669 h_670 h_671 h_672 h_667 h_673 h_674 h_675 h_676 h_677 h_687 h_688 h_689 h_690 h_691 h_692 h_708 h_709 h_706 h_710 h_711 h_712 hq6 hq7 h_12 h_21 h_37 h_595 h_607 h_640 h_641 h_666 h_685 h_686 h_705; omega) | omega, ⟨(Int.le_trans (by decide) h_584.1), (Int.le_trans h_584.2 (by decide))⟩, by decide, by decide⟩ ?_
                refine q_iconst rfl ?_
                refine v_zret rfl rfl (by decide) ?_
                refine bk_inl ?_
                refine v_if_ne_f (t := 8) rfl (by decide) (by decide) ?_
                refine q_vret rfl rfl ?_
                refine bk_inl ?_
                refine q_vret rfl rfl ?_
                refine bk_inl ?_
                refine q_goto (t := 154) rfl (by decide) ?_
                refine q_vret rfl rfl ?_
                have hI_714 := iw_41_7 (v := c_700 41 7 - 1) hI_701 ⟨by first | (clear hq0 hq1 hq2 hq3 hq4 hq5 hq8 h_1 h_2 h_3 h_4 h_5 h_6 h_7 h_8 h_9 h_10 h_11 h_46 h_65 h_66 h_70 h_75 h_76 h_81 h_82 h_87 h_88 h_93 h_431 h_579 h_580 h_581 h_582 h_583 h_584 h_585 h_586 h_587 h_588 h_589 h_590 h_591 h_592 h_593 h_594 h_596 h_609 h_611 h_642 h_643 h_644 h_645 h_646 h_647 h_669 h_670 h_671 h_672 h_667 h_673 h_674 h_675 h_676 h_677 h_687 h_688 h_689 h_690 h_691 h_692 h_708 h_709 h_710 h_711 h_712 h_713 hq6 hq7 h_12 h_21 h_37 h_595 h_607 h_640 h_641 h_666 h_685 h_686 h_705; omega) | omega, by first | exact rgm_h h_709.2 (by decide) | omega⟩
                have h_715 : (up c_700 41 7 (c_700 41 7 - 1)) 41 5 = c_89 1 5 := (((up_n (by decide))).trans (hrb_hR_704.2.1))
                have h_716 : (up c_700 41 7 (c_700 41 7 - 1)) 41 4 = c_700 41 4 := (up_n (by decide))
                have h_717 : (up c_700 41 7 (c_700 41 7 - 1)) 41 6 = c_89 1 4 := (((up_n (by decide))).trans (hrb_hR_704.2.2.2))
                have h_718 : (up c_700 41 7 (c_700 41 7 - 1)) 41 29 = c_700 41 29 := (up_n (by decide))
                have h_719 : (up c_700 41 7 (c_700 41 7 - 1)) 41 7 = c_700 41 7 - 1 := (up_e rfl)
                have h_720 : (up c_700 41 7 (c_700 41 7 - 1)) 41 29 = c_700 41 29 := (up_n (by decide))
                exact K (up c_700 41 7 (c_700 41 7 - 1))  hI_714 (fun a j hm => (up_b (Decidable.or_iff_not_imp_left.mpr (fun h1 h2 => hm (Or.inr (Or.inr (Or.inr (Or.inl ⟨Decidable.not_not.mp h1, h2⟩))))))).trans ((hF_702 a j (fun q => q.elim (fun h => hm (Or.inl h)) (fun q => q.elim (fun h => hm (Or.inr (Or.inl h))) (fun q => q.elim (fun h => hm (Or.inr (Or.inr (Or.inl h)))) (fun q => q.elim (fun h => hm (Or.inr (Or.inr (Or.inr (Or.inl h))))) (fun q => q.elim (fun h => hm (Or.inr (Or.inr (Or.inr (Or.inr (Or.inl h)))))) (fun q => q.elim (fun h => hm (Or.inr (Or.inr (Or.inr (Or.inr (Or.inr (Or.inl h))))))) (fun h => hm (Or.inr (Or.inr (Or.inr (Or.inr (Or.inr (Or.inr h)))))))))))))).trans ((hF_682 a j (fun q => q.elim (fun h => hm (Or.inl h)) (fun q => q.elim (fun h => hm (Or.inr (Or.inl h))) (fun h => hm (Or.inr (Or.inr (Or.inl h))))))).trans ((hF_663 a j (fun q => q.elim (fun h => hm (Or.inl h)) (fun q => q.elim (fun h => hm (Or.inr (Or.inl h))) (fun q => q.elim (fun h => hm (Or.inr (Or.inr (Or.inl h)))) (fun q => q.elim (fun h => hm (Or.inr (Or.inr (Or.inr (Or.inl h))))) (fun q => q.elim (fun h => hm (Or.inr (Or.inr (Or.inr (Or.inr (Or.inl h)))))) (fun q => q.elim (fun h => hm (Or.inr (Or.inr (Or.inr (Or.inr (Or.inr (Or.inl h))))))) (fun h => hm (Or.inr (Or.inr (Or.inr (Or.inr (Or.inr (Or.inr h)))))))))))))).trans ((hF_637 a j (fun q => q.elim (fun h => hm (Or.inl h)) (fun q => q.elim (fun h => hm (Or.inr (Or.inl h))) (fun h => hm (Or.inr (Or.inr (Or.inl h))))))).trans ((up_b (Decidable.or_iff_not_imp_left.mpr (fun h1 h2 => hm (Or.inr (Or.inr (Or.inr (Or.inl ⟨Decidable.not_not.mp h1, h2⟩))))))).trans ((up_b (Decidable.or_iff_not_imp_left.mpr (fun h1 h2 => hm (Or.inl ⟨Decidable.not_not.mp h1, h2⟩)))).trans ((hF_614 a j (fun h => hm (Or.inl h))).trans ((hF_604 a j (fun h => hm (Or.inl h))).trans (hF_599 a j (fun h => hm (Or.inl h)))))))))))) (rt_i2 ⟨⟨by first | (clear ha2 hq0 hq1 hq2 hq3 hq4 hq5 hq8 h_1 h_2 h_3 h_4 h_5 h_6 h_7 h_8 h_9 h_10 h_11 h_46 h_65 h_66 h_70 h_75 h_76 h_81 h_82 h_87 h_88 h_93 h_431 h_579 h_581 h_582 h_583 h_584 h_585 h_586 h_587 h_588 h_589 h_590 h_591 h_592 h_593 h_594 h_596 h_609 h_611 h_642 h_643 h_644 h_645 h_646 h_647 h_669 h_670 h_671 h_672 h_667 h_673 h_674 h_675 h_676 h_677 h_687 h_688 h_689 h_690 h_691 h_692 h_708 h_709 h_706 h_710 h_711 h_712 hq6 hq7 h_12 h_21 h_37 h_595 h_607 h_640 h_641 h_666 h_685 h_686 h_705; omega) | omega, by first | (clear ha2 hq0 hq1 hq2 hq3 hq4 hq5 hq8 h_1 h_2 h_3 h_4 h_5 h_6 h_7 h_8 h_9 h_10 h_11 h_46 h_65 h_66 h_70 h_75 h_76 h_81 h_82 h_87 h_88 h_93 h_431 h_580 h_581 h_582 h_583 h_584 h_585 h_586 h_587 h_588 h_589 h_590 h_591 h_592 h_593 h_594 h_596 h_609 h_611 h_642 h_643 h_644 h_645 h_646 h_647 h_669 h_670 h_671 h_672 h_667 h_673 h_674 h_675 h_676 h_677 h_687 h_688 h_689 h_690 h_691 h_692 h_708 h_709 h_706 h_710 h_711 h_712 h_713 hq6 hq7 h_12 h_21 h_37 h_595 h_607 h_640 h_641 h_666 h_685 h_686 h_705; omega) | omega⟩, by first | (clear ha2 hq0 hq1 hq2 hq3 hq4 hq5 hq8 h_1 h_2 h_3 h_4 h_5 h_6 h_7 h_8 h_9 h_10 h_11 h_46 h_65 h_66 h_70 h_75 h_76 h_81 h_82 h_87 h_88 h_93 h_431 h_579 h_580 h_581 h_582 h_583 h_584 h_585 h_587 h_588 h_589 h_590 h_591 h_592 h_593 h_594 h_596 h_609 h_611 h_642 h_643 h_644 h_645 h_646 h_647 h_669 h_670 h_671 h_672 h_667 h_673 h_674 h_675 h_676 h_677 h_687 h_688 h_689 h_690 h_691 h_692 h_708 h_709 h_706 h_710 h_711 h_712 h_713 hq6 hq7 h_12 h_21 h_37 h_595 h_607 h_640 h_641 h_666 h_685 h_686 h_705; omega) | omega, by first | (clear ha2 hq0 hq1 hq2 hq3 hq4 hq5 hq8 h_1 h_2 h_3 h_4 h_5 h_6 h_7 h_8 h_9 h_10 h_11 h_46 h_65 h_66 h_70 h_75 h_76 h_81 h_82 h_87 h_88 h_93 h_431 h_579 h_580 h_581 h_582 h_583 h_584 h_585 h_587 h_588 h_589 h_590 h_591 h_592 h_593 h_594 h_596 h_609 h_611 h_642 h_643 h_644 h_645 h_646 h_647 h_669 h_670 h_671 h_672 h_667 h_673 h_674 h_675 h_676 h_677 h_687 h_688 h_689 h_690 h_691 h_692 h_708 h_709 h_706 h_710 h_711 h_712 hq6 hq7 h_12 h_21 h_37 h_595 h_607 h_640 h_641 h_666 h_685 h_686 h_705; omega) | omega, by first | (clear ha2 hq0 hq1 hq2 hq3 hq4 hq5 hq8 h_1 h_2 h_3 h_4 h_5 h_6 h_7 h_8 h_9 h_10 h_11 h_46 h_65 h_66 h_70 h_75 h_76 h_81 h_82 h_87 h_88 h_93 h_431 h_579 h_581 h_582 h_583 h_584 h_585 h_586 h_587 h_588 h_589 h_590 h_591 h_592 h_593 h_594 h_596 h_609 h_611 h_642 h_643 h_644 h_645 h_646 h_647 h_669 h_670 h_671 h_672 h_667 h_673 h_674 h_675 h_676 h_677 h_687 h_688 h_689 h_690 h_691 h_692 h_708 h_709 h_706 h_710 h_711 h_712 h_713 hq6 hq7 h_12 h_21 h_37 h_595 h_607 h_640 h_641 h_666 h_685 h_686 h_705; omega) | omega⟩) (Or.inr (Or.inl (by first | (clear ha2 hq0 hq1 hq2 hq3 hq4 hq5 hq8 h_1 h_2 h_3 h_4 h_5 h_6 h_7 h_8 h_9 h_10 h_11 h_46 h_65 h_66 h_70 h_75 h_76 h_81 h_82 h_87 h_88 h_93 h_431 h_579 h_581 h_582 h_583 h_584 h_585 h_586 h_587 h_588 h_589 h_590 h_591 h_592 h_593 h_594 h_596 h_609 h_611 h_642 h_643 h_644 h_645 h_646 h_647 h_669 h_670 h_671 h_672 h_667 h_673 h_674 h_675 h_676 h_677 h_687 h_688 h_689 h_690 h_691 h_692 h_708 h_709 h_706 h_710 h_711 h_712 hq6 hq7 h_12 h_21 h_37 h_595 h_607 h_640 h_641 h_666 h_685 h_686 h_705; omega) | omega))) (by first | (clear ha2 hq0 hq1 hq2 hq3 hq4 hq5 hq8 h_1 h_2 h_3 h_4 h_5 h_6 h_7 h_8 h_9 h_10 h_11 h_46 h_65 h_66 h_70 h_75 h_76 h_81 h_82 h_87 h_88 h_93 h_431 h_579 h_580 h_581 h_582 h_583 h_584 h_585 h_586 h_587 h_588 h_589 h_590 h_591 h_592 h_593 h_594 h_596 h_609 h_611 h_642 h_643 h_644 h_645 h_646 h_647 h_669 h_670 h_671 h_672 h_667 h_673 h_674 h_675 h_676 h_677 h_687 h_688 h_689 h_690 h_691 h_692 h_708 h_709 h_710 h_711 h_712 h_713 hq6 hq7 h_12 h_21 h_37 h_595 h_607 h_640 h_641 h_666 h_685 h_686 h_705; omega) | omega) (fun hz => absurd hz (by omega))
        · as_aux_lemma =>
            skip
            have h_721 := ir_1_5 hI_84
            refine v_cv rfl rfl rfl (ck_p7 hA) (a68 hA rfl) ⟨⟨rfl, rfl⟩, by decide, rfl⟩ (Nat.le_of_ble_eq_true rfl) (Nat.le_of_ble_eq_true rfl) (b_13 (a2 := a2 + 1) (f9 := c_83 1 4) (p9 := c_83 1 5) hI_84 hA (show 0 ≤ a2 + 1 ∧ a2 + 1 ≤ 6 from ⟨by first | exact rgp_l ha2.1 (by decide) | omega, by first | (clear ha2 hq0 hq1 hq2 hq3 hq4 hq5 hq8 h_1 h_2 h_3 h_4 h_5 h_6 h_7 h_8 h_9 h_10 h_11 h_46 h_65 h_66 h_75 h_76 h_81 h_82 h_87 hq6 hq7 h_12 h_21 h_37; omega) | omega⟩) (by omega) (rfl) (rfl) (fun c_722 hI_723 hF_724 hz_725 hz_726 => ?_))
            refine bk_inl ?_
            refine q_aload_n rfl rfl ?_
            refine q_ldc_s rfl rfl rfl (by decide) ?_
            refine v_cv rfl rfl rfl rfl (by decide) ⟨⟨rfl, rfl⟩, by decide, rfl⟩ (Nat.le_of_ble_eq_true rfl) (Nat.le_of_ble_eq_true rfl) ?_
            refine q_aload_n rfl rfl ?_
            refine v_cv rfl rfl rfl rfl (by decide) ⟨⟨rfl, rfl⟩, by decide, rfl⟩ (Nat.le_of_ble_eq_true rfl) (Nat.le_of_ble_eq_true rfl) ?_
            refine q_aload_n rfl rfl ?_
            refine v_gi (z := 4) (v := c_83 1 4) rfl rfl rfl (by decide) rfl rfl (hz_725) ?_
            refine v_if_ne_t (t := 11) rfl (by decide) ⟨by first | (clear ha2 hq0 hq1 hq2 hq3 hq4 hq5 hq8 h_1 h_2 h_3 h_4 h_5 h_6 h_7 h_8 h_9 h_10 h_11 h_46 h_65 h_66 h_70 h_75 h_76 h_81 h_82 h_87 h_721 hq6 hq7 h_12 h_21 h_37; omega) | omega, ⟨(Int.le_trans (by decide) h_87.1), (Int.le_trans h_87.2 (by decide))⟩, by decide, by decide⟩ ?_
            refine q_iconst rfl ?_
            refine v_zret rfl rfl (by decide) ?_
            refine bk_inl ?_
            refine v_if_eq_t (t := 25) rfl (by decide) (by decide) ?_
            refine q_vret rfl rfl ?_
            refine bk_inl ?_
            refine q_aload_n rfl rfl ?_
            refine v_sip rfl (by decide) ?_
            refine q_iload rfl rfl ?_
            refine v_iadd (v := (wd1_0 F (nx F e1 p0) (ln F e1 (nx F e1 p0))) + 2005) rfl (by first | (clear ha2 hq0 hq1 hq2 hq3 hq4 hq5 hq8 h_1 h_2 h_3 h_4 h_5 h_6 h_7 h_8 h_9 h_10 h_11 h_46 h_65 h_66 h_70 h_75 h_76 h_81 h_82 h_87 h_721 hq6 hq7 h_12 h_21 h_37; omega) | omega) ?_
            refine v_bip rfl (by decide) ?_
            refine v_isub (v := (wd1_0 F (nx F e1 p0) (ln F e1 (nx F e1 p0))) + 1997) rfl (by first | (clear ha2 hq0 hq1 hq2 hq3 hq4 hq5 hq8 h_1 h_2 h_3 h_4 h_5 h_6 h_7 h_8 h_9 h_10 h_11 h_46 h_65 h_66 h_70 h_75 h_76 h_81 h_82 h_87 h_721 hq6 hq7 h_12 h_21 h_37; omega) | omega) ?_
            refine v_cv rfl rfl rfl (ck_p7 hA) (a68 hA rfl) ⟨⟨rfl, rfl⟩, by decide, rfl⟩ (Nat.le_of_ble_eq_true rfl) (Nat.le_of_ble_eq_true rfl) ?_
            refine q_aload_n rfl rfl ?_
            have h_727 := ir_p7_5 hI_723 hA
            refine v_gi (z := 5) (v := c_722 (A + 7) 5) rfl rfl (ck_p7 hA) (a68 hA rfl) rfl rfl rfl ?_
            refine q_aload_n rfl rfl ?_
            refine v_gr (t := (A + 9)) rfl rfl (ck_p7 hA) (a68 hA rfl) rfl ?_
            refine v_al rfl (ck_p9 hA) (a68 hA rfl) (by decide) ?_
            by_cases h_728 : c_722 (A + 7) 5 ≥ 150
            · refine v_ic_ge_t (t := 32) rfl (by decide) ⟨by decide, h_728, (Int.le_trans h_727.2 (by decide))⟩ ?_
              refine q_vret rfl rfl ?_
              refine bk_inl ?_
              refine q_vret rfl rfl ?_
              intro hE_729
              have hW : Wd P Q P P c_722 = Wd P Q P P m9 := (Prod.mk.inj (Prod.mk.inj hE_729).2).1
              have h_730 := ir_1_4 hJ9
              have h_731 : m9 1 4 = c_83 1 4 := wd_fv (z := 4) 4 rfl hW rfl rfl rfl rfl (by decide) (hz_725) ⟨(Int.le_trans (by decide) h_87.1), (Int.le_trans h_87.2 (by decide))⟩ ⟨(Int.le_trans (by decide) h_730.1), (Int.le_trans h_730.2 (by decide))⟩
              have h_732 := ir_1_2 hI_723
              have h_733 := ir_1_2 hJ9
              have h_734 : m9 1 2 = c_722 1 2 := wd_fv (z := 2) 2 rfl hW rfl rfl rfl rfl (by decide) rfl ⟨(Int.le_trans (by decide) h_732.1), (Int.le_trans h_732.2 (by decide))⟩ ⟨(Int.le_trans (by decide) h_733.1), (Int.le_trans h_733.2 (by decide))⟩
              have h_735 := ir_1_5 hJ9
              have h_736 : m9 1 5 = c_83 1 5 := wd_fv (z := 5) 5 rfl hW rfl rfl rfl rfl (by decide) (hz_726) ⟨(Int.le_trans (by decide) h_721.1), (Int.le_trans h_721.2 (by decide))⟩ ⟨(Int.le_trans (by decide) h_735.1), (Int.le_trans h_735.2 (by decide))⟩
              have h_737 := ir_p7_5 hJ9 hA
              have h_738 : m9 (A + 7) 5 = c_722 (A + 7) 5 := wd_fv (z := 5) 5 rfl hW (ck_p7 hA) (ck_p7 hA) rfl rfl (by omega) rfl ⟨(Int.le_trans (by decide) h_727.1), (Int.le_trans h_727.2 (by decide))⟩ ⟨(Int.le_trans (by decide) h_737.1), (Int.le_trans h_737.2 (by decide))⟩
              refine q_aload_n rfl rfl ?_
              refine v_cv rfl rfl rfl rfl (by decide) ⟨⟨rfl, rfl⟩, by decide, rfl⟩ (Nat.le_of_ble_eq_true rfl) (Nat.le_of_ble_eq_true rfl) ?_
              refine q_aload_n rfl rfl ?_
              have h_739 := ir_41_5 hI
              have h_740 := ir_41_4 hI
              have h_741 := ir_41_6 hI
              have h_742 := rt_ok hRt (by omega)
              have hro_hRt := rt_ok hRt (by omega)
              refine v_gi (z := 5) (v := (-1)) rfl rfl rfl (by decide) rfl rfl hro_hRt.2.1 ?_
              refine q_iconst rfl ?_
              refine v_ic_ne_f (t := 12) rfl (by decide) (by decide) ?_
              refine q_iconst rfl ?_
              refine q_goto (t := 13) rfl (by decide) ?_
              refine v_zret rfl rfl (by decide) ?_
              refine bk_inl ?_
              refine v_if_ne_t (t := 8) rfl (by decide) (by decide) ?_
              refine q_aload_n rfl rfl ?_
              have h_743 : -2147483648 ≤ (H (nx F e1 p0)) ∧ (H (nx F e1 p0)) ≤ 2147483647 := by rw [← hH (nx F e1 p0)]; exact ir_43 hI (nx F e1 p0)
              have h_744 := hU (nx F e1 p0) (by omega) (by omega)
              have h_745 := hb_or (b := H) (e := e1) (r := (nx F e1 p0))
              have h_746 := hb_bd (b := H) (e := e1) (r := (nx F e1 p0)) (lo := -2147483648) (hi := 2147483647) h_743 (by decide)
              refine v_cv rfl rfl rfl rfl (by decide) ⟨⟨rfl, rfl⟩, by decide, rfl⟩ (Nat.le_of_ble_eq_true rfl) (Nat.le_of_ble_eq_true rfl) (f_154 (e1 := e1) (a9 := p0) (B := H) (r8 := (nx F e1 p0)) (r := (hb H e1 (nx F e1 p0))) hI ((hr_e1)) (((hro_hRt.2.2.1).trans ((hg_p0)))) (fun j => hH j) ((nx_tr hU (by first | (clear ha2 hq0 hq1 hq2 hq3 hq4 hq5 hq8 h_1 h_2 h_3 h_4 h_6 h_7 h_8 h_9 h_10 h_11 h_46 h_65 h_66 h_70 h_75 h_76 h_81 h_82 h_87 h_721 h_727 h_728 h_730 h_731 h_732 h_733 h_734 h_735 h_736 h_737 h_738 h_739 h_740 h_741 h_742 hq6 hq7 h_12 h_21 h_37; omega) | omega) (by first | (clear ha2 hq0 hq1 hq2 hq3 hq4 hq8 h_1 h_2 h_3 h_4 h_5 h_6 h_7 h_8 h_9 h_10 h_11 h_46 h_65 h_66 h_70 h_75 h_76 h_81 h_82 h_87 h_721 h_727 h_728 h_730 h_731 h_732 h_733 h_734 h_735 h_736 h_737 h_738 h_739 h_740 h_741 h_742 hq6 hq7 h_12 h_21 h_37; omega) | omega)).trans (rfl)) rfl (fun c_747 hI_748 hF_749 h_750 => ?_))
              refine bk_inl ?_
              refine v_bip rfl (by decide) ?_
              refine v_ic_ne_t (t := 45) rfl (by decide) ⟨by first | (clear ha2 hq0 hq1 hq2 hq3 hq8 h_3 h_4 h_5 h_6 h_7 h_8 h_9 h_11 h_65 h_66 h_70 h_75 h_76 h_81 h_82 h_87 h_721 h_727 h_728 h_730 h_731 h_732 h_733 h_734 h_735 h_736 h_737 h_738 h_739 h_740 h_741 h_742; omega) | omega, ⟨h_746.1, h_746.2⟩, by decide, by decide⟩ ?_
              refine q_aload_n rfl rfl ?_
              have kn_751 : Hid (c_747 41 3 = e1) := (hF_749 41 3 (fun h => absurd h.2 (ni rfl))).trans (hr_e1)
              refine v_cv rfl rfl rfl rfl (by decide) ⟨⟨rfl, rfl⟩, by decide, rfl⟩ (Nat.le_of_ble_eq_true rfl) (Nat.le_of_ble_eq_true rfl) (f_154 (e1 := e1) (a9 := (nx F e1 p0)) (B := H) (r8 := (nx F e1 p0)) (r := (hb H e1 (nx F e1 p0))) hI_748 ((hid kn_751)) ((h_750)) (fun j => (hF_749 43 j (fun h => absurd h.1 (nn rfl))).trans (hH j)) ((nx_tr hU (by first | (clear ha2 hq0 hq1 hq2 hq3 hq4 hq5 hq8 h_1 h_2 h_3 h_4 h_6 h_7 h_8 h_9 h_11 h_46 h_65 h_66 h_70 h_75 h_76 h_81 h_82 h_87 h_721 h_727 h_728 h_730 h_731 h_732 h_733 h_734 h_735 h_736 h_737 h_738 h_739 h_740 h_741 h_742 h_743 h_744 h_746 hq6 hq7 h_12 h_21 h_37 h_745; omega) | omega) (by first | (clear ha2 hq0 hq1 hq2 hq3 hq4 hq8 h_1 h_2 h_3 h_4 h_5 h_6 h_7 h_8 h_9 h_10 h_11 h_46 h_65 h_66 h_70 h_75 h_76 h_81 h_82 h_87 h_721 h_727 h_728 h_730 h_731 h_732 h_733 h_734 h_735 h_736 h_737 h_738 h_739 h_740 h_741 h_742 h_743 h_744 h_746 hq6 hq7 h_12 h_21 h_37 h_745; omega) | omega)).trans ((nx_z (by omega)))) rfl (fun c_752 hI_753 hF_754 h_755 => ?_))
              refine bk_inl ?_
              refine q_call rfl rfl rfl rfl (f_156 (a0 := (hb H e1 (nx F e1 p0))) hI_753 (show (-2147483648) ≤ (hb H e1 (nx F e1 p0)) ∧ (hb H e1 (nx F e1 p0)) ≤ 2147483647 from h_746) (fun y_756 hy_756 h_757 => ?_))
              refine bk_inl ?_
              refine v_if_eq_t (t := 71) rfl (by decide) (by first | (clear ha2 hq0 hq1 hq2 hq3 hq8 h_3 h_4 h_5 h_6 h_7 h_8 h_9 h_11 h_65 h_66 h_70 h_75 h_76 h_81 h_82 h_87 h_721 h_727 h_728 h_730 h_731 h_732 h_733 h_734 h_735 h_736 h_737 h_738 h_739 h_740 h_741 h_742; omega) | omega) ?_
              refine q_aload_n rfl rfl ?_
              have kn_758 : Hid (c_752 41 3 = e1) := (hF_754 41 3 (fun h => absurd h.2 (ni rfl))).trans (hid kn_751)
              have h_759 := wv_bd (b := F) (r := (nx F e1 p0)) (l := (ln F e1 (nx F e1 p0))) (fun j h1 h2 => ⟨(ln_in (e := e1) (a := (nx F e1 p0)) h1 h2).1, (ln_in (e := e1) (a := (nx F e1 p0)) h1 h2).2.1⟩)
              have h_760 := wr1_8 (b := F) (r := (nx F e1 p0)) (l := (ln F e1 (nx F e1 p0))) (by omega) (fun j h1 h2 => ⟨(ln_in (e := e1) (a := (nx F e1 p0)) h1 h2).1, (ln_in (e := e1) (a := (nx F e1 p0)) h1 h2).2.1⟩) (by omega)
              have h_761 : (wv F (nx F e1 p0) (ln F e1 (nx F e1 p0))) = 12748404 → (ln F e1 (nx F e1 p0)) - (nx F e1 p0) = 5 := wl_least (by omega) (fun j h1 h2 => ⟨(ln_in (e := e1) (a := (nx F e1 p0)) h1 h2).1, (ln_in (e := e1) (a := (nx F e1 p0)) h1 h2).2.1⟩)
              refine v_cv rfl rfl rfl rfl (by decide) ⟨⟨rfl, rfl⟩, by decide, rfl⟩ (Nat.le_of_ble_eq_true rfl) (Nat.le_of_ble_eq_true rfl) (f_157 (e1 := e1) (a9 := (nx F e1 p0)) (B := H) (r8 := (nx F e1 p0)) (L8 := (ln F e1 (nx F e1 p0))) (W8 := (wv F (nx F e1 p0) (ln F e1 (nx F e1 p0)))) hI_753 ((hid kn_758)) ((h_755)) (fun j => ((hF_754 43 j (fun h => absurd h.1 (nn rfl))).trans (hF_749 43 j (fun h => absurd h.1 (nn rfl)))).trans (hH j)) ((nx_tr hU (by first | (clear ha2 hq0 hq1 hq2 hq3 hq4 hq5 hq8 h_1 h_2 h_3 h_4 h_6 h_7 h_8 h_9 h_11 h_46 h_65 h_66 h_70 h_75 h_76 h_81 h_82 h_87 h_721 h_727 h_728 h_730 h_731 h_732 h_733 h_734 h_735 h_736 h_737 h_738 h_739 h_740 h_741 h_742 h_743 h_744 h_746 hq6 hq7 h_12 h_21 h_37 h_745 h_757; omega) | omega) (by first | (clear ha2 hq0 hq1 hq2 hq3 hq4 hq8 h_1 h_2 h_3 h_4 h_5 h_6 h_7 h_8 h_9 h_10 h_11 h_46 h_65 h_66 h_70 h_75 h_76 h_81 h_82 h_87 h_721 h_727 h_728 h_730 h_731 h_732 h_733 h_734 h_735 h_736 h_737 h_738 h_739 h_740 h_741 h_742 h_743 h_744 h_746 hq6 hq7 h_12 h_21 h_37 h_745 h_757; omega) | omega)).trans ((nx_z (by omega)))) ((ln_tr hU (by first | (clear ha2 hq0 hq1 hq2 hq3 hq4 hq5 hq8 h_1 h_2 h_3 h_4 h_6 h_7 h_8 h_9 h_11 h_46 h_65 h_66 h_70 h_75 h_76 h_81 h_82 h_87 h_721 h_727 h_728 h_730 h_731 h_732 h_733 h_734 h_735 h_736 h_737 h_738 h_739 h_740 h_741 h_742 h_743 h_744 h_746 hq6 hq7 h_12 h_21 h_37 h_745 h_757; omega) | omega) (by first | (clear ha2 hq0 hq1 hq2 hq3 hq4 hq8 h_1 h_2 h_3 h_4 h_5 h_6 h_7 h_8 h_9 h_10 h_11 h_46 h_65 h_66 h_70 h_75 h_76 h_81 h_82 h_87 h_721 h_727 h_728 h_730 h_731 h_732 h_733 h_734 h_735 h_736 h_737 h_738 h_739 h_740 h_741 h_742 h_743 h_744 h_746 hq6 hq7 h_12 h_21 h_37 h_745 h_757; omega) | omega)).trans (rfl)) ((wv_tr hU (by first | (clear ha2 hq0 hq1 hq2 hq3 hq4 hq5 hq8 h_1 h_2 h_3 h_4 h_6 h_7 h_8 h_9 h_11 h_46 h_65 h_66 h_70 h_75 h_76 h_81 h_82 h_87 h_721 h_727 h_728 h_730 h_731 h_732 h_733 h_734 h_735 h_736 h_737 h_738 h_739 h_740 h_741 h_742 h_743 h_744 h_746 h_759 h_761 hq6 hq7 h_12 h_21 h_37 h_745 h_757; omega) | omega) (by first | (clear ha2 hq0 hq1 hq2 hq3 hq4 hq8 h_1 h_2 h_3 h_4 h_5 h_6 h_7 h_8 h_9 h_10 h_11 h_65 h_66 h_70 h_75 h_76 h_81 h_82 h_87 h_721 h_727 h_728 h_730 h_731 h_732 h_733 h_734 h_735 h_736 h_737 h_738 h_739 h_740 h_741 h_742 h_743 h_744 h_746 h_759 h_761 hq6 hq7 h_12 h_21 h_37 h_745 h_757; omega) | omega) (fun j h1 h2 => ⟨(ln_in (e := e1) (a := (nx F e1 p0)) h1 h2).1, (ln_in (e := e1) (a := (nx F e1 p0)) h1 h2).2.1⟩)).trans (rfl)) (fun c_762 hI_763 hF_764 hz_765 => ?_))
              refine bk_inl ?_
              refine q_ldc_w_s rfl rfl rfl (by decide) ?_
              refine q_call rfl rfl rfl rfl (s_158_20 ?_)
              refine bk_inl ?_
              refine v_ic_ne_f (t := 94) rfl (by decide) (by first | (clear ha2 hq0 hq1 hq2 hq3 hq4 hq5 hq8 h_1 h_2 h_3 h_4 h_5 h_6 h_7 h_8 h_9 h_10 h_11 h_46 h_65 h_66 h_70 h_75 h_76 h_81 h_82 h_87 h_721 h_727 h_728 h_730 h_731 h_732 h_733 h_734 h_735 h_736 h_737 h_738 h_739 h_740 h_741 h_742 h_743 h_744 h_746 h_759 hq6 hq7 h_12 h_21 h_37 h_745 h_757; omega) | omega) ?_
              refine q_aload_n rfl rfl ?_
              refine q_iconst rfl ?_
              refine v_bip rfl (by decide) ?_
              refine v_cv rfl rfl rfl rfl (by decide) ⟨⟨rfl, rfl⟩, by decide, rfl⟩ (Nat.le_of_ble_eq_true rfl) (Nat.le_of_ble_eq_true rfl) ?_
              refine q_aload_n rfl rfl ?_
              refine q_iload_n rfl rfl ?_
              refine v_cv rfl rfl rfl rfl (by decide) ⟨⟨rfl, rfl⟩, by decide, rfl⟩ (Nat.le_of_ble_eq_true rfl) (Nat.le_of_ble_eq_true rfl) ?_
              refine q_aload_n rfl rfl ?_
              refine v_cv rfl rfl rfl rfl (by decide) ⟨⟨rfl, rfl⟩, by decide, rfl⟩ (Nat.le_of_ble_eq_true rfl) (Nat.le_of_ble_eq_true rfl) ?_
              refine q_aload_n rfl rfl ?_
              have kn_766 : Hid (c_747 41 5 = (-1)) := (hF_749 41 5 (fun h => absurd h.2 (ni rfl))).trans hro_hRt.2.1
              have kn_767 : Hid (c_752 41 5 = (-1)) := (hF_754 41 5 (fun h => absurd h.2 (ni rfl))).trans (hid kn_766)
              have kn_768 : Hid (c_762 41 5 = (-1)) := (hF_764 41 5 (fun h => absurd h.2 (ni rfl))).trans (hid kn_767)
              refine v_gi (z := 5) (v := (-1)) rfl rfl rfl (by decide) rfl rfl (hid kn_768) ?_
              refine q_iconst rfl ?_
              refine v_ic_ne_f (t := 12) rfl (by decide) (by decide) ?_
              refine q_iconst rfl ?_
              refine q_goto (t := 13) rfl (by decide) ?_
              refine v_zret rfl rfl (by decide) ?_
              refine bk_inl ?_
              refine v_if_eq_f (t := 25) rfl (by decide) (by decide) ?_
              refine q_aload_n rfl rfl ?_
              have kn_769 : Hid (c_747 41 7 = o0) := (hF_749 41 7 (fun h => absurd h.2 (ni rfl))).trans (hr_o0)
              have kn_770 : Hid (c_752 41 7 = o0) := (hF_754 41 7 (fun h => absurd h.2 (ni rfl))).trans (hid kn_769)
              have kn_771 : Hid (c_762 41 7 = o0) := (hF_764 41 7 (fun h => absurd h.2 (ni rfl))).trans (hid kn_770)
              refine v_gi (z := 7) (v := o0) rfl rfl rfl (by decide) rfl rfl (hid kn_771) ?_
              refine v_bip rfl (by decide) ?_
              refine v_ic_ne_t (t := 25) rfl (by decide) ⟨by first | (clear ha2 hq0 hq1 hq3 hq4 hq5 hq8 h_1 h_2 h_3 h_4 h_5 h_6 h_7 h_8 h_9 h_10 h_11 h_46 h_65 h_66 h_75 h_76 h_81 h_82 h_87 h_721 h_727 h_728 h_730 h_731 h_732 h_733 h_734 h_735 h_736 h_737 h_738 h_739 h_740 h_741 h_742 h_743 h_744 h_746 h_759 h_761 hq6 hq7 h_12 h_21 h_37 h_745 h_757; omega) | omega, ⟨(Int.le_trans (by decide) (rg_eq hr_o0 h_8).1), (Int.le_trans (rg_eq hr_o0 h_8).2 (by decide))⟩, by decide, by decide⟩ ?_
              refine q_aload_n rfl rfl ?_
              refine v_cv rfl rfl rfl rfl (by decide) ⟨⟨rfl, rfl⟩, by decide, rfl⟩ (Nat.le_of_ble_eq_true rfl) (Nat.le_of_ble_eq_true rfl) ?_
              refine q_aload_n rfl rfl ?_
              refine v_gi (z := 5) (v := (-1)) rfl rfl rfl (by decide) rfl rfl (hid kn_768) ?_
              refine q_iconst rfl ?_
              refine v_ic_ne_f (t := 12) rfl (by decide) (by decide) ?_
              refine q_iconst rfl ?_
              refine q_goto (t := 13) rfl (by decide) ?_
              refine v_zret rfl rfl (by decide) ?_
              refine bk_inl ?_
              refine v_if_eq_f (t := 42) rfl (by decide) (by decide) ?_
              refine q_aload_n rfl rfl ?_
              refine q_dup rfl rfl ?_
              refine v_gi (z := 4) (v := (nx F e1 p0)) rfl rfl rfl (by decide) rfl rfl (hz_765) ?_
              refine q_iload_n rfl rfl ?_
              refine v_iadd (v := (nx F e1 p0) + 5) rfl rfl ?_
              refine v_pi (z := 4) rfl rfl rfl (by decide) rfl rfl rfl (by decide) ?_
              refine q_aload_n rfl rfl ?_
              refine q_dup rfl rfl ?_
              refine v_gi (z := 7) (v := o0) rfl rfl rfl (by decide) rfl rfl ((up_n (by decide)).trans (hid kn_771)) ?_
              refine q_iconst rfl ?_
              refine v_iadd (v := o0 + 1) rfl rfl ?_
              refine v_pi (z := 7) rfl rfl rfl (by decide) rfl rfl rfl (by decide) ?_
              refine q_vret rfl rfl ?_
              refine bk_inl ?_
              refine q_aload_n rfl rfl ?_
              refine v_bip rfl (by decide) ?_
              have hI_772 := iw_41_4 (v := (nx F e1 p0) + 5) hI_763 ⟨by first | exact rgp_l (rg_be h_10 ((rg_eq hg_p0 h_5).1) ((rg_eq hg_e1 h_1).2)).1 (by decide) | omega, by first | exact rgp_h (rg_be h_10 ((rg_eq hg_p0 h_5).1) ((rg_eq hg_e1 h_1).2)).2 (by decide) | omega⟩
              have hI_773 := iw_41_7 (v := o0 + 1) hI_772 ⟨by first | exact rgp_l (rg_eq hr_o0 h_8).1 (by decide) | omega, by first | (clear ha2 hq0 hq1 hq3 hq4 hq5 hq8 h_1 h_2 h_3 h_4 h_5 h_6 h_7 h_8 h_9 h_10 h_11 h_46 h_65 h_66 h_75 h_76 h_81 h_82 h_87 h_721 h_727 h_728 h_730 h_731 h_732 h_733 h_734 h_735 h_736 h_737 h_738 h_739 h_740 h_741 h_742 h_743 h_744 h_746 h_759 h_761 hq6 hq7 h_12 h_21 h_37 h_745 h_757; omega) | omega⟩
              have kn_774 : Hid (c_62 1 1 = e1) := (hF_64 1 1 (fun q => q.elim (fun h => absurd h.2 (ni rfl)) (fun q => q.elim (fun h => absurd h.2 (ni rfl)) (fun h => absurd h.2 (ni rfl))))).trans (hid kn_39)
              have kn_775 : Hid (c_762 41 3 = e1) := (hF_764 41 3 (fun h => absurd h.2 (ni rfl))).trans (hid kn_758)
              have h_776 : c_62 1 4 = 0 := (hz_68)
              have h_777 : c_62 1 2 = (ln F e1 (nx F e1 p0)) := (hz_67)
              have h_778 : c_62 1 5 = g0 := (hz_69)
              have h_779 : (up (up c_762 41 4 ((nx F e1 p0) + 5)) 41 7 (o0 + 1)) 41 5 = (-1) := ((up_n (by decide)).trans ((up_n (by decide)).trans (hid kn_768)))
              have h_780 : (up (up c_762 41 4 ((nx F e1 p0) + 5)) 41 7 (o0 + 1)) 41 4 = (nx F e1 p0) + 5 := ((up_n (by decide)).trans (up_e rfl))
              have kn_781 : Hid (c_747 41 6 = c 41 6) := hF_749 41 6 (fun h => absurd h.2 (ni rfl))
              have kn_782 : Hid (c_752 41 6 = c 41 6) := (hF_754 41 6 (fun h => absurd h.2 (ni rfl))).trans (hid kn_781)
              have kn_783 : Hid (c_762 41 6 = c 41 6) := (hF_764 41 6 (fun h => absurd h.2 (ni rfl))).trans (hid kn_782)
              have h_784 : (up (up c_762 41 4 ((nx F e1 p0) + 5)) 41 7 (o0 + 1)) 41 6 = c 41 6 := ((up_n (by decide)).trans ((up_n (by decide)).trans (hid kn_783)))
              refine v_cv rfl rfl rfl rfl (by decide) ⟨⟨rfl, rfl⟩, by decide, rfl⟩ (Nat.le_of_ble_eq_true rfl) (Nat.le_of_ble_eq_true rfl) (L_11_3 (m := c_62) (e1 := e1) (a9 := (ln F e1 (nx F e1 p0))) (f0 := 0) (F := F) (H := H) hI_773 hI_63 hI_72 ((hid kn_774)) (((up_n (by decide)).trans ((up_n (by decide)).trans (hid kn_775)))) ((hz_67)) ((hz_68)) (fun j => ((hF_64 2 j (fun q => q.elim (fun h => absurd h.1 (nn rfl)) (fun q => q.elim (fun h => absurd h.1 (nn rfl)) (fun h => absurd h.1 (nn rfl))))).trans ((hF_36 2 j (fun h => absurd h.1 (nn rfl))).trans ((hF_26 2 j (fun h => absurd h.1 (nn rfl))).trans (hF_20 2 j (fun h => absurd h.1 (nn rfl)))))).trans (hF j)) (fun j => ((up_c (nn rfl)).trans ((up_c (nn rfl)).trans ((hF_764 43 j (fun h => absurd h.1 (nn rfl))).trans ((hF_754 43 j (fun h => absurd h.1 (nn rfl))).trans (hF_749 43 j (fun h => absurd h.1 (nn rfl))))))).trans (hH j)) hU (rt_i1 ⟨by first | (clear ha2 hq0 hq1 hq2 hq3 hq4 hq5 hq8 h_1 h_2 h_3 h_4 h_5 h_6 h_7 h_8 h_9 h_10 h_11 h_46 h_65 h_66 h_70 h_75 h_76 h_81 h_82 h_87 h_721 h_727 h_728 h_730 h_731 h_732 h_733 h_734 h_735 h_736 h_737 h_738 h_739 h_740 h_741 h_742 h_743 h_744 h_746 h_759 h_761 hq6 hq7 h_12 h_21 h_37 h_745 h_757; omega) | omega, by first | (clear ha2 hq0 hq1 hq2 hq3 hq4 hq5 hq8 h_1 h_2 h_3 h_4 h_5 h_6 h_7 h_8 h_9 h_10 h_11 h_46 h_65 h_66 h_70 h_75 h_76 h_81 h_82 h_87 h_721 h_727 h_728 h_730 h_731 h_732 h_733 h_734 h_735 h_736 h_737 h_738 h_739 h_740 h_741 h_742 h_743 h_744 h_746 h_759 h_761 hq6 hq7 h_12 h_21 h_37 h_745 h_757; omega) | omega, by first | (clear ha2 hq0 hq1 hq2 hq3 hq4 hq5 hq8 h_1 h_2 h_3 h_4 h_5 h_6 h_7 h_8 h_9 h_10 h_11 h_46 h_65 h_66 h_70 h_75 h_76 h_81 h_82 h_87 h_721 h_727 h_728 h_730 h_731 h_732 h_733 h_734 h_735 h_736 h_737 h_738 h_739 h_740 h_741 h_742 h_743 h_744 h_746 h_759 hq6 hq7 h_12 h_21 h_37 h_745 h_757; omega) | omega, by first | (clear ha2 hq0 hq2 hq3 hq4 hq5 hq8 h_1 h_2 h_3 h_4 h_5 h_6 h_7 h_8 h_9 h_10 h_11 h_46 h_65 h_66 h_70 h_75 h_76 h_81 h_82 h_87 h_721 h_727 h_728 h_730 h_731 h_732 h_733 h_734 h_735 h_736 h_737 h_738 h_739 h_740 h_741 h_742 h_743 h_744 h_746 h_759 h_761 hq6 hq7 h_12 h_21 h_37 h_745 h_757; omega) | omega⟩) hG_74 (fun c_785 hI_786 hF_787 hR_789 h_790 h_791 => ?_))
              refine bk_inl ?_
              have h_792 := ir_1_2 hI_72
              refine q_aload_n rfl rfl ?_
              have h_793 := ir_41_5 hI_786
              have h_794 := ir_1_5 hI_72
              have h_795 := ir_41_4 hI_786
              have h_796 := ir_41_6 hI_786
              have h_797 := rt_ok hR_789 (by omega)
              have hro_hR_789 := rt_ok hR_789 (by omega)
              have kn_798 : Hid (c_71 1 1 = e1) := (hF_73 1 1 (fun q => q.elim (fun h => absurd h.2 (ni rfl)) (fun q => q.elim (fun h => absurd h.2 (ni rfl)) (fun h => absurd h.2 (ni rfl))))).trans (hid kn_774)
              have kn_799 : Hid (c_785 41 3 = e1) := (hF_787 41 3 (fun q => q.elim (fun h => absurd h.2 (ni rfl)) (fun q => q.elim (fun h => absurd h.2 (ni rfl)) (fun h => absurd h.2 (ni rfl))))).trans ((up_n (by decide)).trans ((up_n (by decide)).trans (hid kn_775)))
              have kn_800 : Hid (c_18 (A + 7) 5 = n0) := (hF_20 (A + 7) 5 (fun h => absurd h.1 (np hA rfl rfl))).trans (hg_n0)
              have kn_801 : Hid (c_24 (A + 7) 5 = n0) := (hF_26 (A + 7) 5 (fun h => absurd h.1 (np hA rfl rfl))).trans (hid kn_800)
              have kn_802 : Hid (c_34 (A + 7) 5 = n0) := (hF_36 (A + 7) 5 (fun h => absurd h.1 (np hA rfl rfl))).trans (hid kn_801)
              have kn_803 : Hid (c_62 (A + 7) 5 = n0) := (hF_64 (A + 7) 5 (fun q => q.elim (fun h => absurd h.1 (np hA rfl rfl)) (fun q => q.elim (fun h => absurd h.1 (np hA rfl rfl)) (fun h => absurd h.1 (np hA rfl rfl))))).trans (hid kn_802)
              have kn_804 : Hid (c_71 (A + 7) 5 = n0) := (hF_73 (A + 7) 5 (fun q => q.elim (fun h => absurd h.1 (np hA rfl rfl)) (fun q => q.elim (fun h => absurd h.1 (np hA rfl rfl)) (fun h => absurd h.1 (np hA rfl rfl))))).trans (hid kn_803)
              have kn_805 : Hid (c_747 41 29 = n0) := (hF_749 41 29 (fun h => absurd h.2 (ni rfl))).trans (hr_n0)
              have kn_806 : Hid (c_752 41 29 = n0) := (hF_754 41 29 (fun h => absurd h.2 (ni rfl))).trans (hid kn_805)
              have kn_807 : Hid (c_762 41 29 = n0) := (hF_764 41 29 (fun h => absurd h.2 (ni rfl))).trans (hid kn_806)
              have kn_808 : Hid (c_785 41 29 = n0) := (hF_787 41 29 (fun q => q.elim (fun h => absurd h.2 (ni rfl)) (fun q => q.elim (fun h => absurd h.2 (ni rfl)) (fun h => absurd h.2 (ni rfl))))).trans ((up_n (by decide)).trans ((up_n (by decide)).trans (hid kn_807)))
              have kn_809 : Hid (c_785 41 7 = o0 + 1) := (hF_787 41 7 (fun q => q.elim (fun h => absurd h.2 (ni rfl)) (fun q => q.elim (fun h => absurd h.2 (ni rfl)) (fun h => absurd h.2 (ni rfl))))).trans (up_e rfl)
              have hA_810 : Ce n0 (c_71 (A + 9)) (c_785 50) (c_785 51) := ce_fr hr0 (fun j => (hF_73 (A + 9) j (fun q => q.elim (fun h => absurd h.1 (np hA rfl rfl)) (fun q => q.elim (fun h => absurd h.1 (np hA rfl rfl)) (fun h => absurd h.1 (np hA rfl rfl))))).trans ((hF_64 (A + 9) j (fun q => q.elim (fun h => absurd h.1 (np hA rfl rfl)) (fun q => q.elim (fun h => absurd h.1 (np hA rfl rfl)) (fun h => absurd h.1 (np hA rfl rfl))))).trans ((hF_36 (A + 9) j (fun h => absurd h.1 (np hA rfl rfl))).trans ((hF_26 (A + 9) j (fun h => absurd h.1 (np hA rfl rfl))).trans (hF_20 (A + 9) j (fun h => absurd h.1 (np hA rfl rfl))))))) (fun j => (hF_787 50 j (fun q => q.elim (fun h => absurd h.1 (nn rfl)) (fun q => q.elim (fun h => absurd h.1 (nn rfl)) (fun h => absurd h.1 (nn rfl))))).trans ((up_c (nn rfl)).trans ((up_c (nn rfl)).trans ((hF_764 50 j (fun h => absurd h.1 (nn rfl))).trans ((hF_754 50 j (fun h => absurd h.1 (nn rfl))).trans (hF_749 50 j (fun h => absurd h.1 (nn rfl)))))))) (fun j => (hF_787 51 j (fun q => q.elim (fun h => absurd h.1 (nn rfl)) (fun q => q.elim (fun h => absurd h.1 (nn rfl)) (fun h => absurd h.1 (nn rfl))))).trans ((up_c (nn rfl)).trans ((up_c (nn rfl)).trans ((hF_764 51 j (fun h => absurd h.1 (nn rfl))).trans ((hF_754 51 j (fun h => absurd h.1 (nn rfl))).trans (hF_749 51 j (fun h => absurd h.1 (nn rfl))))))))
              refine v_cv rfl rfl rfl rfl (by decide) ⟨⟨rfl, rfl⟩, by decide, rfl⟩ (Nat.le_of_ble_eq_true rfl) (Nat.le_of_ble_eq_true rfl) (H13 (m := c_71) (e1 := e1) (f0 := c_71 1 4) (g0 := c_71 1 5) (p0 := c_71 1 2) (n0 := n0) (o0 := o0 + 1) (by omega) (by omega) hI_786 hI_72 hI_78 (show 0 ≤ a2 + 1 ∧ a2 + 1 ≤ 6 from ⟨by first | exact rgp_l ha2.1 (by decide) | omega, by first | (clear ha2 hq0 hq1 hq2 hq3 hq4 hq5 hq8 h_1 h_2 h_3 h_4 h_5 h_6 h_7 h_8 h_9 h_10 h_11 h_46 h_65 h_66 h_75 h_76 h_81 h_82 h_87 h_721 h_727 h_728 h_730 h_731 h_732 h_733 h_734 h_735 h_736 h_737 h_738 h_739 h_740 h_741 h_742 h_743 h_744 h_746 h_759 h_761 h_792 h_793 h_794 h_795 h_796 h_797 hq6 hq7 h_12 h_21 h_37 h_745 h_757 h_790 h_791; omega) | omega⟩) (by first | (clear ha2 hq0 hq1 hq2 hq3 hq4 hq5 hq8 h_1 h_2 h_3 h_4 h_5 h_6 h_7 h_8 h_9 h_10 h_11 h_46 h_65 h_66 h_70 h_81 h_82 h_87 h_721 h_727 h_728 h_730 h_731 h_732 h_733 h_734 h_735 h_736 h_737 h_738 h_739 h_740 h_741 h_742 h_743 h_744 h_746 h_759 h_761 h_792 h_793 h_794 h_795 h_796 h_797 hq6 hq7 h_12 h_21 h_37 h_745 h_757 h_790 h_791; omega) | omega) (by first | (clear ha2 hq0 hq1 hq2 hq3 hq4 hq5 hq8 h_1 h_2 h_3 h_4 h_5 h_6 h_7 h_8 h_9 h_10 h_11 h_46 h_65 h_66 h_70 h_75 h_76 h_81 h_82 h_87 h_721 h_727 h_728 h_730 h_731 h_732 h_733 h_734 h_735 h_736 h_737 h_738 h_739 h_740 h_741 h_742 h_743 h_744 h_746 h_759 h_761 h_792 h_793 h_795 h_796 hq6 hq7 h_12 h_21 h_37 h_745 h_757 h_790 h_791; omega) | omega) (by first | (clear ha2 hq0 hq1 hq3 hq4 hq5 hq8 h_1 h_2 h_3 h_4 h_5 h_6 h_7 h_8 h_9 h_10 h_11 h_46 h_65 h_66 h_70 h_75 h_76 h_81 h_82 h_87 h_721 h_727 h_728 h_730 h_731 h_732 h_733 h_734 h_735 h_736 h_737 h_738 h_739 h_740 h_741 h_742 h_743 h_744 h_746 h_759 h_761 h_792 h_793 h_794 h_795 h_796 h_797 hq6 hq7 h_12 h_21 h_37 h_745 h_757 h_790 h_791; omega) | omega) (by first | (clear ha2 hq0 hq1 hq2 hq8 h_3 h_4 h_8 h_9 h_11 h_65 h_66 h_70 h_81 h_82 h_87 h_721 h_727 h_728 h_730 h_731 h_732 h_733 h_734 h_735 h_736 h_737 h_738 h_739 h_740 h_741 h_742 h_743 h_744 h_746 h_759 h_796 h_757; omega) | omega) (by first | (clear ha2 hq0 hq1 hq2 hq3 hq8 h_3 h_4 h_5 h_6 h_7 h_8 h_9 h_11 h_65 h_66 h_70 h_75 h_76 h_81 h_82 h_87 h_721 h_727 h_728 h_730 h_731 h_732 h_733 h_734 h_735 h_736 h_737 h_738 h_739 h_740 h_741 h_742 h_743 h_744 h_746 h_759 h_761 h_793 h_794 h_795 h_796 h_757 h_791; omega) | omega) (by first | (clear ha2 hq0 hq1 hq2 hq3 hq4 hq8 h_1 h_2 h_3 h_4 h_5 h_6 h_7 h_8 h_9 h_10 h_11 h_46 h_65 h_66 h_70 h_75 h_76 h_81 h_82 h_87 h_721 h_727 h_728 h_730 h_731 h_732 h_733 h_734 h_735 h_736 h_737 h_738 h_739 h_740 h_741 h_742 h_743 h_744 h_746 h_759 h_761 h_792 h_793 h_794 h_795 h_796 h_797 hq6 hq7 h_12 h_21 h_37 h_745 h_757 h_790 h_791; omega) | omega) ((hid kn_798)) ((hid kn_799)) (rfl) (rfl) (rfl) ((hid kn_804)) ((hid kn_808)) ((hid kn_809)) (fun j => ((hF_73 2 j (fun q => q.elim (fun h => absurd h.1 (nn rfl)) (fun q => q.elim (fun h => absurd h.1 (nn rfl)) (fun h => absurd h.1 (nn rfl))))).trans ((hF_64 2 j (fun q => q.elim (fun h => absurd h.1 (nn rfl)) (fun q => q.elim (fun h => absurd h.1 (nn rfl)) (fun h => absurd h.1 (nn rfl))))).trans ((hF_36 2 j (fun h => absurd h.1 (nn rfl))).trans ((hF_26 2 j (fun h => absurd h.1 (nn rfl))).trans (hF_20 2 j (fun h => absurd h.1 (nn rfl))))))).trans (hF j)) (fun j => ((hF_787 43 j (fun q => q.elim (fun h => absurd h.1 (nn rfl)) (fun q => q.elim (fun h => absurd h.1 (nn rfl)) (fun h => absurd h.1 (nn rfl))))).trans ((up_c (nn rfl)).trans ((up_c (nn rfl)).trans ((hF_764 43 j (fun h => absurd h.1 (nn rfl))).trans ((hF_754 43 j (fun h => absurd h.1 (nn rfl))).trans (hF_749 43 j (fun h => absurd h.1 (nn rfl)))))))).trans (hH j)) hU hR_789 (ce_le hA_810 (by omega)) hG_80 (fun c_811 hI_812 hF_813 hR_815 h_816 h_817 hA_818 => ?_))
              refine bk_inl ?_
              have h_819 := ir_41_29 hI_812
              have h_820 := ir_p7_5 hI_78 hA
              have h_821 := ir_1_2 hI_78
              have h_822 := ir_41_7 hI_812
              refine q_aload_n rfl rfl ?_
              refine v_bip rfl (by decide) ?_
              have h_823 := ir_41_5 hI_812
              have h_824 := ir_1_5 hI_78
              have h_825 := ir_41_4 hI_812
              have h_826 := ir_41_6 hI_812
              have h_827 := rt_ok hR_815 (by omega)
              have hro_hR_815 := rt_ok hR_815 (by omega)
              have kn_828 : Hid (c_77 1 1 = e1) := (hF_79 1 1 (fun q => q.elim (fun h => absurd h.2 (ni rfl)) (fun q => q.elim (fun h => absurd h.2 (ni rfl)) (fun q => q.elim (fun h => absurd h.2 (ni rfl)) (fun q => q.elim (fun h => absurd h.1 (pn hA rfl rfl)) (fun h => absurd h (pn hA rfl rfl))))))).trans (hid kn_798)
              have kn_829 : Hid (c_811 41 3 = e1) := (hF_813 41 3 (fun q => q.elim (fun h => absurd h.2 (ni rfl)) (fun q => q.elim (fun h => absurd h.2 (ni rfl)) (fun q => q.elim (fun h => absurd h.2 (ni rfl)) (fun q => q.elim (fun h => absurd h.2 (ni rfl)) (fun q => q.elim (fun h => absurd h.2 (ni rfl)) (fun q => q.elim (fun h => absurd h (nn rfl)) (fun h => absurd h (nn rfl))))))))).trans (hid kn_799)
              refine v_cv rfl rfl rfl rfl (by decide) ⟨⟨rfl, rfl⟩, by decide, rfl⟩ (Nat.le_of_ble_eq_true rfl) (Nat.le_of_ble_eq_true rfl) (L_11_4 (m := c_77) (e1 := e1) (a9 := c_77 1 2) (f0 := c_77 1 4) (F := F) (H := H) hI_812 hI_78 hI_84 ((hid kn_828)) ((hid kn_829)) (rfl) (rfl) (fun j => ((hF_79 2 j (fun q => q.elim (fun h => absurd h.1 (nn rfl)) (fun q => q.elim (fun h => absurd h.1 (nn rfl)) (fun q => q.elim (fun h => absurd h.1 (nn rfl)) (fun q => q.elim (fun h => absurd h.1 (pn hA rfl rfl)) (fun h => absurd h (pn hA rfl rfl))))))).trans ((hF_73 2 j (fun q => q.elim (fun h => absurd h.1 (nn rfl)) (fun q => q.elim (fun h => absurd h.1 (nn rfl)) (fun h => absurd h.1 (nn rfl))))).trans ((hF_64 2 j (fun q => q.elim (fun h => absurd h.1 (nn rfl)) (fun q => q.elim (fun h => absurd h.1 (nn rfl)) (fun h => absurd h.1 (nn rfl))))).trans ((hF_36 2 j (fun h => absurd h.1 (nn rfl))).trans ((hF_26 2 j (fun h => absurd h.1 (nn rfl))).trans (hF_20 2 j (fun h => absurd h.1 (nn rfl)))))))).trans (hF j)) (fun j => ((hF_813 43 j (fun q => q.elim (fun h => absurd h.1 (nn rfl)) (fun q => q.elim (fun h => absurd h.1 (nn rfl)) (fun q => q.elim (fun h => absurd h.1 (nn rfl)) (fun q => q.elim (fun h => absurd h.1 (nn rfl)) (fun q => q.elim (fun h => absurd h.1 (nn rfl)) (fun q => q.elim (fun h => absurd h (nn rfl)) (fun h => absurd h (nn rfl))))))))).trans ((hF_787 43 j (fun q => q.elim (fun h => absurd h.1 (nn rfl)) (fun q => q.elim (fun h => absurd h.1 (nn rfl)) (fun h => absurd h.1 (nn rfl))))).trans ((up_c (nn rfl)).trans ((up_c (nn rfl)).trans ((hF_764 43 j (fun h => absurd h.1 (nn rfl))).trans ((hF_754 43 j (fun h => absurd h.1 (nn rfl))).trans (hF_749 43 j (fun h => absurd h.1 (nn rfl))))))))).trans (hH j)) hU hR_815 hG_86 (fun c_830 hI_831 hF_832 hR_834 h_835 h_836 => ?_))
              refine bk_inl ?_
              have h_837 := ir_1_2 hI_84
              refine q_aload_n rfl rfl ?_
              have h_838 := ir_41_5 hI_831
              have h_839 := ir_41_4 hI_831
              have h_840 := ir_41_6 hI_831
              have h_841 := rt_bad hR_834 (by omega)
              have hrb_hR_834 := rt_bad hR_834 (by omega)
              have h_842 : ¬ c_830 41 5 = -1 := by rw [show c_830 41 5 = c_83 1 5 from hrb_hR_834.2.1]; omega
              refine v_cv rfl rfl rfl rfl (by decide) ⟨⟨rfl, rfl⟩, by decide, rfl⟩ (Nat.le_of_ble_eq_true rfl) (Nat.le_of_ble_eq_true rfl) (n_174 hI_831 (by omega) ?_)
              refine bk_inl ?_
              refine q_aload_n rfl rfl ?_
              refine v_bip rfl (by decide) ?_
              refine v_cv rfl rfl rfl rfl (by decide) ⟨⟨rfl, rfl⟩, by decide, rfl⟩ (Nat.le_of_ble_eq_true rfl) (Nat.le_of_ble_eq_true rfl) ?_
              refine q_aload_n rfl rfl ?_
              refine v_cv rfl rfl rfl rfl (by decide) ⟨⟨rfl, rfl⟩, by decide, rfl⟩ (Nat.le_of_ble_eq_true rfl) (Nat.le_of_ble_eq_true rfl) ?_
              refine q_aload_n rfl rfl ?_
              refine v_gi (z := 5) (v := c_83 1 5) rfl rfl rfl (by decide) rfl rfl hrb_hR_834.2.1 ?_
              refine q_iconst rfl ?_
              refine v_ic_ne_t (t := 12) rfl (by decide) ⟨by first | (clear ha2 hq0 hq1 hq2 hq3 hq4 hq5 hq8 h_1 h_2 h_3 h_4 h_5 h_6 h_7 h_8 h_9 h_10 h_11 h_46 h_65 h_66 h_70 h_75 h_76 h_81 h_82 h_87 h_721 h_727 h_728 h_730 h_731 h_732 h_733 h_734 h_735 h_736 h_737 h_738 h_739 h_740 h_741 h_742 h_743 h_744 h_746 h_759 h_761 h_792 h_793 h_794 h_795 h_796 h_797 h_819 h_820 h_821 h_822 h_817 h_823 h_824 h_825 h_826 h_827 h_837 h_838 h_839 h_840 hq6 hq7 h_12 h_21 h_37 h_745 h_757 h_790 h_791 h_816 h_835 h_836; omega) | omega, ⟨(Int.le_trans (by decide) h_721.1), (Int.le_trans h_721.2 (by decide))⟩, by decide, by decide⟩ ?_
              refine q_iconst rfl ?_
              refine v_zret rfl rfl (by decide) ?_
              refine bk_inl ?_
              refine v_if_eq_t (t := 24) rfl (by decide) (by decide) ?_
              refine q_aload_n rfl rfl ?_
              refine v_cv rfl rfl rfl rfl (by decide) ⟨⟨rfl, rfl⟩, by decide, rfl⟩ (Nat.le_of_ble_eq_true rfl) (Nat.le_of_ble_eq_true rfl) ?_
              refine q_aload_n rfl rfl ?_
              refine v_gi (z := 5) (v := c_83 1 5) rfl rfl rfl (by decide) rfl rfl hrb_hR_834.2.1 ?_
              refine q_iconst rfl ?_
              refine v_ic_ne_t (t := 12) rfl (by decide) ⟨by first | (clear ha2 hq0 hq1 hq2 hq3 hq4 hq5 hq8 h_1 h_2 h_3 h_4 h_5 h_6 h_7 h_8 h_9 h_10 h_11 h_46 h_65 h_66 h_70 h_75 h_76 h_81 h_82 h_87 h_721 h_727 h_728 h_730 h_731 h_732 h_733 h_734 h_735 h_736 h_737 h_738 h_739 h_740 h_741 h_742 h_743 h_744 h_746 h_759 h_761 h_792 h_793 h_794 h_795 h_796 h_797 h_819 h_820 h_821 h_822 h_817 h_823 h_824 h_825 h_826 h_827 h_837 h_838 h_839 h_840 hq6 hq7 h_12 h_21 h_37 h_745 h_757 h_790 h_791 h_816 h_835 h_836; omega) | omega, ⟨(Int.le_trans (by decide) h_721.1), (Int.le_trans h_721.2 (by decide))⟩, by decide, by decide⟩ ?_
              refine q_iconst rfl ?_
              refine v_zret rfl rfl (by decide) ?_
              refine bk_inl ?_
              refine v_if_eq_t (t := 41) rfl (by decide) (by decide) ?_
              refine q_vret rfl rfl ?_
              refine bk_inl ?_
              refine q_aload_n rfl rfl ?_
              refine q_dup rfl rfl ?_
              have kn_843 : Hid (c_830 41 7 = c_811 41 7) := hF_832 41 7 (fun q => q.elim (fun h => absurd h.2 (ni rfl)) (fun q => q.elim (fun h => absurd h.2 (ni rfl)) (fun h => absurd h.2 (ni rfl))))
              refine v_gi (z := 7) (v := c_811 41 7) rfl rfl rfl (by decide) rfl rfl (hid kn_843) ?_
              refine q_iconst rfl ?_
              refine v_isub (v := c_811 41 7 - 1) rfl rfl ?_
              refine v_pi (z := 7) rfl rfl rfl (by decide) rfl rfl rfl (by decide) ?_
              refine q_aload_n rfl rfl ?_
              refine q_iload_n rfl rfl ?_
              refine q_iconst rfl ?_
              refine v_cv rfl rfl rfl rfl (by decide) ⟨⟨rfl, rfl⟩, by decide, rfl⟩ (Nat.le_of_ble_eq_true rfl) (Nat.le_of_ble_eq_true rfl) ?_
              refine q_aload_n rfl rfl ?_
              refine v_cv rfl rfl rfl rfl (by decide) ⟨⟨rfl, rfl⟩, by decide, rfl⟩ (Nat.le_of_ble_eq_true rfl) (Nat.le_of_ble_eq_true rfl) ?_
              refine q_aload_n rfl rfl ?_
              refine v_gi (z := 5) (v := c_83 1 5) rfl rfl rfl (by decide) rfl rfl (((up_n (by decide))).trans (hrb_hR_834.2.1)) ?_
              refine q_iconst rfl ?_
              refine v_ic_ne_t (t := 12) rfl (by decide) ⟨by first | (clear ha2 hq0 hq1 hq2 hq3 hq4 hq5 hq8 h_1 h_2 h_3 h_4 h_5 h_6 h_7 h_8 h_9 h_10 h_11 h_46 h_65 h_66 h_70 h_75 h_76 h_81 h_82 h_87 h_721 h_727 h_728 h_730 h_731 h_732 h_733 h_734 h_735 h_736 h_737 h_738 h_739 h_740 h_741 h_742 h_743 h_744 h_746 h_759 h_761 h_792 h_793 h_794 h_795 h_796 h_797 h_819 h_820 h_821 h_822 h_817 h_823 h_824 h_825 h_826 h_827 h_837 h_838 h_839 h_840 hq6 hq7 h_12 h_21 h_37 h_745 h_757 h_790 h_791 h_816 h_835 h_836; omega) | omega, ⟨(Int.le_trans (by decide) h_721.1), (Int.le_trans h_721.2 (by decide))⟩, by decide, by decide⟩ ?_
              refine q_iconst rfl ?_
              refine v_zret rfl rfl (by decide) ?_
              refine bk_inl ?_
              refine v_if_ne_f (t := 8) rfl (by decide) (by decide) ?_
              refine q_vret rfl rfl ?_
              refine bk_inl ?_
              refine q_vret rfl rfl ?_
              refine bk_inl ?_
              refine q_goto (t := 154) rfl (by decide) ?_
              refine q_vret rfl rfl ?_
              have hI_844 := iw_41_7 (v := c_811 41 7 - 1) hI_831 ⟨by first | (clear hq0 hq1 hq2 hq3 hq4 hq5 hq8 h_1 h_2 h_3 h_4 h_5 h_6 h_7 h_8 h_9 h_10 h_11 h_46 h_65 h_66 h_70 h_75 h_76 h_81 h_82 h_87 h_721 h_727 h_728 h_730 h_731 h_732 h_733 h_734 h_735 h_736 h_737 h_738 h_739 h_740 h_741 h_742 h_743 h_744 h_746 h_759 h_761 h_792 h_793 h_794 h_795 h_796 h_797 h_819 h_820 h_821 h_822 h_823 h_824 h_825 h_826 h_827 h_837 h_838 h_839 h_840 h_841 hq6 hq7 h_12 h_21 h_37 h_745 h_757 h_790 h_791 h_816 h_835 h_836; omega) | omega, by first | exact rgm_h h_822.2 (by decide) | omega⟩
              have h_845 : (up c_830 41 7 (c_811 41 7 - 1)) 41 5 = c_83 1 5 := (((up_n (by decide))).trans (hrb_hR_834.2.1))
              have h_846 : (up c_830 41 7 (c_811 41 7 - 1)) 41 4 = c_830 41 4 := (up_n (by decide))
              have h_847 : (up c_830 41 7 (c_811 41 7 - 1)) 41 6 = c_83 1 4 := (((up_n (by decide))).trans (hrb_hR_834.2.2.2))
              have kn_848 : Hid (c_830 41 29 = c_811 41 29) := hF_832 41 29 (fun q => q.elim (fun h => absurd h.2 (ni rfl)) (fun q => q.elim (fun h => absurd h.2 (ni rfl)) (fun h => absurd h.2 (ni rfl))))
              have h_849 : (up c_830 41 7 (c_811 41 7 - 1)) 41 29 = c_811 41 29 := ((up_n (by decide)).trans (hid kn_848))
              have h_850 : (up c_830 41 7 (c_811 41 7 - 1)) 41 7 = c_811 41 7 - 1 := (up_e rfl)
              have h_851 : (up c_830 41 7 (c_811 41 7 - 1)) 41 29 = c_811 41 29 := ((up_n (by decide)).trans (hid kn_848))
              exact K (up c_830 41 7 (c_811 41 7 - 1))  hI_844 (fun a j hm => (up_b (Decidable.or_iff_not_imp_left.mpr (fun h1 h2 => hm (Or.inr (Or.inr (Or.inr (Or.inl ⟨Decidable.not_not.mp h1, h2⟩))))))).trans ((hF_832 a j (fun q => q.elim (fun h => hm (Or.inl h)) (fun q => q.elim (fun h => hm (Or.inr (Or.inl h))) (fun h => hm (Or.inr (Or.inr (Or.inl h))))))).trans ((hF_813 a j (fun q => q.elim (fun h => hm (Or.inl h)) (fun q => q.elim (fun h => hm (Or.inr (Or.inl h))) (fun q => q.elim (fun h => hm (Or.inr (Or.inr (Or.inl h)))) (fun q => q.elim (fun h => hm (Or.inr (Or.inr (Or.inr (Or.inl h))))) (fun q => q.elim (fun h => hm (Or.inr (Or.inr (Or.inr (Or.inr (Or.inl h)))))) (fun q => q.elim (fun h => hm (Or.inr (Or.inr (Or.inr (Or.inr (Or.inr (Or.inl h))))))) (fun h => hm (Or.inr (Or.inr (Or.inr (Or.inr (Or.inr (Or.inr h)))))))))))))).trans ((hF_787 a j (fun q => q.elim (fun h => hm (Or.inl h)) (fun q => q.elim (fun h => hm (Or.inr (Or.inl h))) (fun h => hm (Or.inr (Or.inr (Or.inl h))))))).trans ((up_b (Decidable.or_iff_not_imp_left.mpr (fun h1 h2 => hm (Or.inr (Or.inr (Or.inr (Or.inl ⟨Decidable.not_not.mp h1, h2⟩))))))).trans ((up_b (Decidable.or_iff_not_imp_left.mpr (fun h1 h2 => hm (Or.inl ⟨Decidable.not_not.mp h1, h2⟩)))).trans ((hF_764 a j (fun h => hm (Or.inl h))).trans ((hF_754 a j (fun h => hm (Or.inl h))).trans (hF_749 a j (fun h => hm (Or.inl h))))))))))) (rt_i2 ⟨⟨by first | (clear ha2 hq0 hq1 hq2 hq3 hq4 hq5 hq8 h_1 h_2 h_3 h_4 h_5 h_6 h_7 h_8 h_9 h_10 h_11 h_46 h_65 h_66 h_70 h_75 h_76 h_81 h_82 h_87 h_721 h_727 h_728 h_730 h_732 h_733 h_734 h_735 h_736 h_737 h_738 h_739 h_740 h_741 h_742 h_743 h_744 h_746 h_759 h_761 h_792 h_793 h_794 h_795 h_796 h_797 h_819 h_820 h_821 h_822 h_817 h_823 h_824 h_825 h_826 h_827 h_837 h_838 h_839 h_840 hq6 hq7 h_12 h_21 h_37 h_745 h_757 h_790 h_791 h_816 h_835 h_836; omega) | omega, by first | (clear ha2 hq0 hq1 hq2 hq3 hq4 hq5 hq8 h_1 h_2 h_3 h_4 h_5 h_6 h_7 h_8 h_9 h_10 h_11 h_46 h_65 h_66 h_70 h_75 h_76 h_81 h_82 h_87 h_721 h_727 h_728 h_731 h_732 h_733 h_734 h_735 h_736 h_737 h_738 h_739 h_740 h_741 h_742 h_743 h_744 h_746 h_759 h_761 h_792 h_793 h_794 h_795 h_796 h_797 h_819 h_820 h_821 h_822 h_817 h_823 h_824 h_825 h_826 h_827 h_837 h_838 h_839 h_840 h_841 hq6 hq7 h_12 h_21 h_37 h_745 h_757 h_790 h_791 h_816 h_835 h_836; omega) | omega⟩, by first | (clear ha2 hq0 hq1 hq2 hq3 hq4 hq5 hq8 h_1 h_2 h_3 h_4 h_5 h_6 h_7 h_8 h_9 h_10 h_11 h_46 h_65 h_66 h_70 h_75 h_76 h_81 h_82 h_87 h_721 h_727 h_728 h_730 h_731 h_732 h_733 h_734 h_735 h_737 h_738 h_739 h_740 h_741 h_742 h_743 h_744 h_746 h_759 h_761 h_792 h_793 h_794 h_795 h_796 h_797 h_819 h_820 h_821 h_822 h_817 h_823 h_824 h_825 h_826 h_827 h_837 h_838 h_839 h_840 h_841 hq6 hq7 h_12 h_21 h_37 h_745 h_757 h_790 h_791 h_816 h_835 h_836; omega) | omega, by first | (clear ha2 hq0 hq1 hq2 hq3 hq4 hq5 hq8 h_1 h_2 h_3 h_4 h_5 h_6 h_7 h_8 h_9 h_10 h_11 h_46 h_65 h_66 h_70 h_75 h_76 h_81 h_82 h_87 h_721 h_727 h_728 h_730 h_731 h_732 h_733 h_734 h_735 h_737 h_738 h_739 h_740 h_741 h_742 h_743 h_744 h_746 h_759 h_761 h_792 h_793 h_794 h_795 h_796 h_797 h_819 h_820 h_821 h_822 h_817 h_823 h_824 h_825 h_826 h_827 h_837 h_838 h_839 h_840 hq6 hq7 h_12 h_21 h_37 h_745 h_757 h_790 h_791 h_816 h_835 h_836; omega) | omega, by first | (clear ha2 hq0 hq1 hq2 hq3 hq4 hq5 hq8 h_1 h_2 h_3 h_4 h_5 h_6 h_7 h_8 h_9 h_10 h_11 h_46 h_65 h_66 h_70 h_75 h_76 h_81 h_82 h_87 h_721 h_727 h_728 h_730 h_732 h_733 h_734 h_735 h_736 h_737 h_738 h_739 h_740 h_741 h_742 h_743 h_744 h_746 h_759 h_761 h_792 h_793 h_794 h_795 h_796 h_797 h_819 h_820 h_821 h_822 h_817 h_823 h_824 h_825 h_826 h_827 h_837 h_838 h_839 h_840 h_841 hq6 hq7 h_12 h_21 h_37 h_745 h_757 h_790 h_791 h_816 h_835 h_836; omega) | omega⟩) (Or.inr (Or.inl (by first | (clear ha2 hq0 hq1 hq2 hq3 hq4 hq5 hq8 h_1 h_2 h_3 h_4 h_5 h_6 h_7 h_8 h_9 h_10 h_11 h_46 h_65 h_66 h_70 h_75 h_76 h_81 h_82 h_87 h_721 h_727 h_728 h_730 h_732 h_733 h_734 h_735 h_736 h_737 h_738 h_739 h_740 h_741 h_742 h_743 h_744 h_746 h_759 h_761 h_792 h_793 h_794 h_795 h_796 h_797 h_819 h_820 h_821 h_822 h_817 h_823 h_824 h_825 h_826 h_827 h_837 h_838 h_839 h_840 hq6 hq7 h_12 h_21 h_37 h_745 h_757 h_790 h_791 h_816 h_835 h_836; omega) | omega))) (by first | (clear ha2 hq0 hq1 hq2 hq3 hq4 hq5 hq8 h_1 h_2 h_3 h_4 h_5 h_6 h_7 h_8 h_9 h_10 h_11 h_46 h_65 h_66 h_70 h_75 h_76 h_81 h_82 h_87 h_721 h_727 h_728 h_730 h_731 h_732 h_733 h_734 h_735 h_736 h_737 h_738 h_739 h_740 h_741 h_742 h_743 h_744 h_746 h_759 h_761 h_792 h_793 h_794 h_795 h_796 h_797 h_819 h_820 h_821 h_822 h_823 h_824 h_825 h_826 h_827 h_837 h_838 h_839 h_840 h_841 hq6 hq7 h_12 h_21 h_37 h_745 h_757 h_790 h_791 h_816 h_835 h_836; omega) | omega) (fun hz => absurd hz (by omega))
            · refine v_ic_ge_f (t := 32) rfl (by decide) ⟨(Int.le_trans (by decide) h_727.1), (Int.not_le.mp h_728), by decide⟩ ?_
              refine q_aload_n rfl rfl ?_
              refine v_gr (t := (A + 9)) rfl rfl (ck_p7 hA) (a68 hA rfl) rfl ?_
              refine q_aload_n rfl rfl ?_
              refine v_gi (z := 5) (v := c_722 (A + 7) 5) rfl rfl (ck_p7 hA) (a68 hA rfl) rfl rfl rfl ?_
              refine q_iload_n rfl rfl ?_
              refine v_is rfl (ck_p9 hA) (a68 hA rfl) (by decide) (by omega) ?_
              refine q_aload_n rfl rfl ?_
              refine q_dup rfl rfl ?_
              refine v_gi (z := 5) (v := c_722 (A + 7) 5) rfl rfl (ck_p7 hA) (a68 hA rfl) rfl rfl (up_c (pp rfl)) ?_
              refine q_iconst rfl ?_
              refine v_iadd (v := c_722 (A + 7) 5 + 1) rfl rfl ?_
              refine v_pi (z := 5) rfl rfl (ck_p7 hA) (a68 hA rfl) rfl rfl rfl (by decide) ?_
              refine q_vret rfl rfl ?_
              refine bk_inl ?_
              refine q_vret rfl rfl ?_
              have hI_852 := iw_lg (j := c_722 (A + 7) 5) (v := (wd1_0 F (nx F e1 p0) (ln F e1 (nx F e1 p0))) + 1997) hI_723 (lgp (k := 9) hA (by decide)) ⟨by omega, by omega⟩ (by omega)
              have hI_853 := iw_p7_5 (v := c_722 (A + 7) 5 + 1) hI_852 hA ⟨by first | exact rgp_l h_727.1 (by decide) | omega, by first | (clear ha2 hq0 hq1 hq2 hq3 hq4 hq5 hq8 h_1 h_2 h_3 h_4 h_5 h_6 h_7 h_8 h_9 h_10 h_11 h_46 h_65 h_66 h_70 h_75 h_76 h_81 h_82 h_87 h_721 h_727 hq6 hq7 h_12 h_21 h_37; omega) | omega⟩
              intro hE_854
              have hW : Wd P Q P P (up (up c_722 (A + 9) (c_722 (A + 7) 5) ((wd1_0 F (nx F e1 p0) (ln F e1 (nx F e1 p0))) + 1997)) (A + 7) 5 (c_722 (A + 7) 5 + 1)) = Wd P Q P P m9 := (Prod.mk.inj (Prod.mk.inj hE_854).2).1
              have h_855 := ir_1_4 hJ9
              have h_856 : m9 1 4 = c_83 1 4 := wd_fv (z := 4) 4 rfl hW rfl rfl rfl rfl (by decide) ((up_c (pn hA rfl rfl)).trans ((up_c (pn hA rfl rfl)).trans (hz_725))) ⟨(Int.le_trans (by decide) h_87.1), (Int.le_trans h_87.2 (by decide))⟩ ⟨(Int.le_trans (by decide) h_855.1), (Int.le_trans h_855.2 (by decide))⟩
              have h_857 := ir_1_2 hI_723
              have h_858 := ir_1_2 hJ9
              have h_859 : m9 1 2 = c_722 1 2 := wd_fv (z := 2) 2 rfl hW rfl rfl rfl rfl (by decide) ((up_c (pn hA rfl rfl)).trans (up_c (pn hA rfl rfl))) ⟨(Int.le_trans (by decide) h_857.1), (Int.le_trans h_857.2 (by decide))⟩ ⟨(Int.le_trans (by decide) h_858.1), (Int.le_trans h_858.2 (by decide))⟩
              have h_860 := ir_1_5 hJ9
              have h_861 : m9 1 5 = c_83 1 5 := wd_fv (z := 5) 5 rfl hW rfl rfl rfl rfl (by decide) ((up_c (pn hA rfl rfl)).trans ((up_c (pn hA rfl rfl)).trans (hz_726))) ⟨(Int.le_trans (by decide) h_721.1), (Int.le_trans h_721.2 (by decide))⟩ ⟨(Int.le_trans (by decide) h_860.1), (Int.le_trans h_860.2 (by decide))⟩
              have h_862 := ir_p7_5 hJ9 hA
              have h_863 : m9 (A + 7) 5 = c_722 (A + 7) 5 + 1 := wd_fv (z := 5) 5 rfl hW (ck_p7 hA) (ck_p7 hA) rfl rfl (by omega) (up_e rfl) ⟨by first | exact rgp_l h_727.1 (by decide) | omega, by first | exact rgp_h h_727.2 (by decide) | omega⟩ ⟨(Int.le_trans (by decide) h_862.1), (Int.le_trans h_862.2 (by decide))⟩
              refine q_aload_n rfl rfl ?_
              refine v_cv rfl rfl rfl rfl (by decide) ⟨⟨rfl, rfl⟩, by decide, rfl⟩ (Nat.le_of_ble_eq_true rfl) (Nat.le_of_ble_eq_true rfl) ?_
              refine q_aload_n rfl rfl ?_
              have h_864 := ir_41_5 hI
              have h_865 := ir_41_4 hI
              have h_866 := ir_41_6 hI
              have h_867 := rt_ok hRt (by omega)
              have hro_hRt := rt_ok hRt (by omega)
              refine v_gi (z := 5) (v := (-1)) rfl rfl rfl (by decide) rfl rfl hro_hRt.2.1 ?_
              refine q_iconst rfl ?_
              refine v_ic_ne_f (t := 12) rfl (by decide) (by decide) ?_
              refine q_iconst rfl ?_
              refine q_goto (t := 13) rfl (by decide) ?_
              refine v_zret rfl rfl (by decide) ?_
              refine bk_inl ?_
              refine v_if_ne_t (t := 8) rfl (by decide) (by decide) ?_
              refine q_aload_n rfl rfl ?_
              have h_868 : -2147483648 ≤ (H (nx F e1 p0)) ∧ (H (nx F e1 p0)) ≤ 2147483647 := by rw [← hH (nx F e1 p0)]; exact ir_43 hI (nx F e1 p0)
              have h_869 := hU (nx F e1 p0) (by omega) (by omega)
              have h_870 := hb_or (b := H) (e := e1) (r := (nx F e1 p0))
              have h_871 := hb_bd (b := H) (e := e1) (r := (nx F e1 p0)) (lo := -2147483648) (hi := 2147483647) h_868 (by decide)
              refine v_cv rfl rfl rfl rfl (by decide) ⟨⟨rfl, rfl⟩, by decide, rfl⟩ (Nat.le_of_ble_eq_true rfl) (Nat.le_of_ble_eq_true rfl) (f_154 (e1 := e1) (a9 := p0) (B := H) (r8 := (nx F e1 p0)) (r := (hb H e1 (nx F e1 p0))) hI ((hr_e1)) (((hro_hRt.2.2.1).trans ((hg_p0)))) (fun j => hH j) ((nx_tr hU (by first | (clear ha2 hq0 hq1 hq2 hq3 hq4 hq5 hq8 h_1 h_2 h_3 h_4 h_6 h_7 h_8 h_9 h_10 h_11 h_46 h_65 h_66 h_70 h_75 h_76 h_81 h_82 h_87 h_721 h_727 h_855 h_856 h_857 h_858 h_859 h_860 h_861 h_862 h_863 h_864 h_865 h_866 h_867 hq6 hq7 h_12 h_21 h_37; omega) | omega) (by first | (clear ha2 hq0 hq1 hq2 hq3 hq4 hq8 h_1 h_2 h_3 h_4 h_5 h_6 h_7 h_8 h_9 h_10 h_11 h_46 h_65 h_66 h_70 h_75 h_76 h_81 h_82 h_87 h_721 h_727 h_855 h_856 h_857 h_858 h_859 h_860 h_861 h_862 h_863 h_864 h_865 h_866 h_867 hq6 hq7 h_12 h_21 h_37; omega) | omega)).trans (rfl)) rfl (fun c_872 hI_873 hF_874 h_875 => ?_))
              refine bk_inl ?_
              refine v_bip rfl (by decide) ?_
              refine v_ic_ne_t (t := 45) rfl (by decide) ⟨by first | (clear ha2 hq0 hq1 hq2 hq3 hq8 h_3 h_4 h_5 h_6 h_7 h_8 h_9 h_11 h_65 h_66 h_70 h_75 h_76 h_81 h_82 h_87 h_721 h_727 h_855 h_856 h_857 h_858 h_859 h_860 h_861 h_862 h_863 h_864 h_865 h_866 h_867; omega) | omega, ⟨h_871.1, h_871.2⟩, by decide, by decide⟩ ?_
              refine q_aload_n rfl rfl ?_
              have kn_876 : Hid (c_872 41 3 = e1) := (hF_874 41 3 (fun h => absurd h.2 (ni rfl))).trans (hr_e1)
              refine v_cv rfl rfl rfl rfl (by decide) ⟨⟨rfl, rfl⟩, by decide, rfl⟩ (Nat.le_of_ble_eq_true rfl) (Nat.le_of_ble_eq_true rfl) (f_154 (e1 := e1) (a9 := (nx F e1 p0)) (B := H) (r8 := (nx F e1 p0)) (r := (hb H e1 (nx F e1 p0))) hI_873 ((hid kn_876)) ((h_875)) (fun j => (hF_874 43 j (fun h => absurd h.1 (nn rfl))).trans (hH j)) ((nx_tr hU (by first | (clear ha2 hq0 hq1 hq2 hq3 hq4 hq5 hq8 h_1 h_2 h_3 h_4 h_6 h_7 h_8 h_9 h_11 h_46 h_65 h_66 h_70 h_75 h_76 h_81 h_82 h_87 h_721 h_727 h_855 h_856 h_857 h_858 h_859 h_860 h_861 h_862 h_863 h_864 h_865 h_866 h_867 h_868 h_869 h_871 hq6 hq7 h_12 h_21 h_37 h_870; omega) | omega) (by first | (clear ha2 hq0 hq1 hq2 hq3 hq4 hq8 h_1 h_2 h_3 h_4 h_5 h_6 h_7 h_8 h_9 h_10 h_11 h_46 h_65 h_66 h_70 h_75 h_76 h_81 h_82 h_87 h_721 h_727 h_855 h_856 h_857 h_858 h_859 h_860 h_861 h_862 h_863 h_864 h_865 h_866 h_867 h_868 h_869 h_871 hq6 hq7 h_12 h_21 h_37 h_870; omega) | omega)).trans ((nx_z (by omega)))) rfl (fun c_877 hI_878 hF_879 h_880 => ?_))
              refine bk_inl ?_
              refine q_call rfl rfl rfl rfl (f_156 (a0 := (hb H e1 (nx F e1 p0))) hI_878 (show (-2147483648) ≤ (hb H e1 (nx F e1 p0)) ∧ (hb H e1 (nx F e1 p0)) ≤ 2147483647 from h_871) (fun y_881 hy_881 h_882 => ?_))
              refine bk_inl ?_
              refine v_if_eq_t (t := 71) rfl (by decide) (by first | (clear ha2 hq0 hq1 hq2 hq3 hq8 h_3 h_4 h_5 h_6 h_7 h_8 h_9 h_11 h_65 h_66 h_70 h_75 h_76 h_81 h_82 h_87 h_721 h_727 h_855 h_856 h_857 h_858 h_859 h_860 h_861 h_862 h_863 h_864 h_865 h_866 h_867; omega) | omega) ?_
              refine q_aload_n rfl rfl ?_
              have kn_883 : Hid (c_877 41 3 = e1) := (hF_879 41 3 (fun h => absurd h.2 (ni rfl))).trans (hid kn_876)
              have h_884 := wv_bd (b := F) (r := (nx F e1 p0)) (l := (ln F e1 (nx F e1 p0))) (fun j h1 h2 => ⟨(ln_in (e := e1) (a := (nx F e1 p0)) h1 h2).1, (ln_in (e := e1) (a := (nx F e1 p0)) h1 h2).2.1⟩)
              have h_885 := wr1_8 (b := F) (r := (nx F e1 p0)) (l := (ln F e1 (nx F e1 p0))) (by omega) (fun j h1 h2 => ⟨(ln_in (e := e1) (a := (nx F e1 p0)) h1 h2).1, (ln_in (e := e1) (a := (nx F e1 p0)) h1 h2).2.1⟩) (by omega)
              have h_886 : (wv F (nx F e1 p0) (ln F e1 (nx F e1 p0))) = 12748404 → (ln F e1 (nx F e1 p0)) - (nx F e1 p0) = 5 := wl_least (by omega) (fun j h1 h2 => ⟨(ln_in (e := e1) (a := (nx F e1 p0)) h1 h2).1, (ln_in (e := e1) (a := (nx F e1 p0)) h1 h2).2.1⟩)
              refine v_cv rfl rfl rfl rfl (by decide) ⟨⟨rfl, rfl⟩, by decide, rfl⟩ (Nat.le_of_ble_eq_true rfl) (Nat.le_of_ble_eq_true rfl) (f_157 (e1 := e1) (a9 := (nx F e1 p0)) (B := H) (r8 := (nx F e1 p0)) (L8 := (ln F e1 (nx F e1 p0))) (W8 := (wv F (nx F e1 p0) (ln F e1 (nx F e1 p0)))) hI_878 ((hid kn_883)) ((h_880)) (fun j => ((hF_879 43 j (fun h => absurd h.1 (nn rfl))).trans (hF_874 43 j (fun h => absurd h.1 (nn rfl)))).trans (hH j)) ((nx_tr hU (by first | (clear ha2 hq0 hq1 hq2 hq3 hq4 hq5 hq8 h_1 h_2 h_3 h_4 h_6 h_7 h_8 h_9 h_11 h_46 h_65 h_66 h_70 h_75 h_76 h_81 h_82 h_87 h_721 h_727 h_855 h_856 h_857 h_858 h_859 h_860 h_861 h_862 h_863 h_864 h_865 h_866 h_867 h_868 h_869 h_871 hq6 hq7 h_12 h_21 h_37 h_870 h_882; omega) | omega) (by first | (clear ha2 hq0 hq1 hq2 hq3 hq4 hq8 h_1 h_2 h_3 h_4 h_5 h_6 h_7 h_8 h_9 h_10 h_11 h_46 h_65 h_66 h_70 h_75 h_76 h_81 h_82 h_87 h_721 h_727 h_855 h_856 h_857 h_858 h_859 h_860 h_861 h_862 h_863 h_864 h_865 h_866 h_867 h_868 h_869 h_871 hq6 hq7 h_12 h_21 h_37 h_870 h_882; omega) | omega)).trans ((nx_z (by omega)))) ((ln_tr hU (by first | (clear ha2 hq0 hq1 hq2 hq3 hq4 hq5 hq8 h_1 h_2 h_3 h_4 h_6 h_7 h_8 h_9 h_11 h_46 h_65 h_66 h_70 h_75 h_76 h_81 h_82 h_87 h_721 h_727 h_855 h_856 h_857 h_858 h_859 h_860 h_861 h_862 h_863 h_864 h_865 h_866 h_867 h_868 h_869 h_871 hq6 hq7 h_12 h_21 h_37 h_870 h_882; omega) | omega) (by first | (clear ha2 hq0 hq1 hq2 hq3 hq4 hq8 h_1 h_2 h_3 h_4 h_5 h_6 h_7 h_8 h_9 h_10 h_11 h_46 h_65 h_66 h_70 h_75 h_76 h_81 h_82 h_87 h_721 h_727 h_855 h_856 h_857 h_858 h_859 h_860 h_861 h_862 h_863 h_864 h_865 h_866 h_867 h_868 h_869 h_871 hq6 hq7 h_12 h_21 h_37 h_870 h_882; omega) | omega)).trans (rfl)) ((wv_tr hU (by first | (clear ha2 hq0 hq1 hq2 hq3 hq4 hq5 hq8 h_1 h_2 h_3 h_4 h_6 h_7 h_8 h_9 h_11 h_46 h_65 h_66 h_70 h_75 h_76 h_81 h_82 h_87 h_721 h_727 h_855 h_856 h_857 h_858 h_859 h_860 h_861 h_862 h_863 h_864 h_865 h_866 h_867 h_868 h_869 h_871 h_884 h_886 hq6 hq7 h_12 h_21 h_37 h_870 h_882; omega) | omega) (by first | (clear ha2 hq0 hq1 hq2 hq3 hq4 hq8 h_1 h_2 h_3 h_4 h_5 h_6 h_7 h_8 h_9 h_10 h_11 h_65 h_66 h_70 h_75 h_76 h_81 h_82 h_87 h_721 h_727 h_855 h_856 h_857 h_858 h_859 h_860 h_861 h_862 h_863 h_864 h_865 h_866 h_867 h_868 h_869 h_871 h_884 h_886 hq6 hq7 h_12 h_21 h_37 h_870 h_882; omega) | omega) (fun j h1 h2 => ⟨(ln_in (e := e1) (a := (nx F e1 p0)) h1 h2).1, (ln_in (e := e1) (a := (nx F e1 p0)) h1 h2).2.1⟩)).trans (rfl)) (fun c_887 hI_888 hF_889 hz_890 => ?_))
              refine bk_inl ?_
              refine q_ldc_w_s rfl rfl rfl (by decide) ?_
              refine q_call rfl rfl rfl rfl (s_158_20 ?_)
              refine bk_inl ?_
              refine v_ic_ne_f (t := 94) rfl (by decide) (by first | (clear ha2 hq0 hq1 hq2 hq3 hq4 hq5 hq8 h_1 h_2 h_3 h_4 h_5 h_6 h_7 h_8 h_9 h_10 h_11 h_46 h_65 h_66 h_70 h_75 h_76 h_81 h_82 h_87 h_721 h_727 h_855 h_856 h_857 h_858 h_859 h_860 h_861 h_862 h_863 h_864 h_865 h_866 h_867 h_868 h_869 h_871 h_884 hq6 hq7 h_12 h_21 h_37 h_870 h_882; omega) | omega) ?_
              refine q_aload_n rfl rfl ?_
              refine q_iconst rfl ?_
              refine v_bip rfl (by decide) ?_
              refine v_cv rfl rfl rfl rfl (by decide) ⟨⟨rfl, rfl⟩, by decide, rfl⟩ (Nat.le_of_ble_eq_true rfl) (Nat.le_of_ble_eq_true rfl) ?_
              refine q_aload_n rfl rfl ?_
              refine q_iload_n rfl rfl ?_
              refine v_cv rfl rfl rfl rfl (by decide) ⟨⟨rfl, rfl⟩, by decide, rfl⟩ (Nat.le_of_ble_eq_true rfl) (Nat.le_of_ble_eq_true rfl) ?_
              refine q_aload_n rfl rfl ?_
              refine v_cv rfl rfl rfl rfl (by decide) ⟨⟨rfl, rfl⟩, by decide, rfl⟩ (Nat.le_of_ble_eq_true rfl) (Nat.le_of_ble_eq_true rfl) ?_
              refine q_aload_n rfl rfl ?_
              have kn_891 : Hid (c_872 41 5 = (-1)) := (hF_874 41 5 (fun h => absurd h.2 (ni rfl))).trans hro_hRt.2.1
              have kn_892 : Hid (c_877 41 5 = (-1)) := (hF_879 41 5 (fun h => absurd h.2 (ni rfl))).trans (hid kn_891)
              have kn_893 : Hid (c_887 41 5 = (-1)) := (hF_889 41 5 (fun h => absurd h.2 (ni rfl))).trans (hid kn_892)
              refine v_gi (z := 5) (v := (-1)) rfl rfl rfl (by decide) rfl rfl (hid kn_893) ?_
              refine q_iconst rfl ?_
              refine v_ic_ne_f (t := 12) rfl (by decide) (by decide) ?_
              refine q_iconst rfl ?_
              refine q_goto (t := 13) rfl (by decide) ?_
              refine v_zret rfl rfl (by decide) ?_
              refine bk_inl ?_
              refine v_if_eq_f (t := 25) rfl (by decide) (by decide) ?_
              refine q_aload_n rfl rfl ?_
              have kn_894 : Hid (c_872 41 7 = o0) := (hF_874 41 7 (fun h => absurd h.2 (ni rfl))).trans (hr_o0)
              have kn_895 : Hid (c_877 41 7 = o0) := (hF_879 41 7 (fun h => absurd h.2 (ni rfl))).trans (hid kn_894)
              have kn_896 : Hid (c_887 41 7 = o0) := (hF_889 41 7 (fun h => absurd h.2 (ni rfl))).trans (hid kn_895)
              refine v_gi (z := 7) (v := o0) rfl rfl rfl (by decide) rfl rfl (hid kn_896) ?_
              refine v_bip rfl (by decide) ?_
              refine v_ic_ne_t (t := 25) rfl (by decide) ⟨by first | (clear ha2 hq0 hq1 hq3 hq4 hq5 hq8 h_1 h_2 h_3 h_4 h_5 h_6 h_7 h_8 h_9 h_10 h_11 h_46 h_65 h_66 h_75 h_76 h_81 h_82 h_87 h_721 h_727 h_855 h_856 h_857 h_858 h_859 h_860 h_861 h_862 h_863 h_864 h_865 h_866 h_867 h_868 h_869 h_871 h_884 h_886 hq6 hq7 h_12 h_21 h_37 h_870 h_882; omega) | omega, ⟨(Int.le_trans (by decide) (rg_eq hr_o0 h_8).1), (Int.le_trans (rg_eq hr_o0 h_8).2 (by decide))⟩, by decide, by decide⟩ ?_
              refine q_aload_n rfl rfl ?_
              refine v_cv rfl rfl rfl rfl (by decide) ⟨⟨rfl, rfl⟩, by decide, rfl⟩ (Nat.le_of_ble_eq_true rfl) (Nat.le_of_ble_eq_true rfl) ?_
              refine q_aload_n rfl rfl ?_
              refine v_gi (z := 5) (v := (-1)) rfl rfl rfl (by decide) rfl rfl (hid kn_893) ?_
              refine q_iconst rfl ?_
              refine v_ic_ne_f (t := 12) rfl (by decide) (by decide) ?_
              refine q_iconst rfl ?_
              refine q_goto (t := 13) rfl (by decide) ?_
              refine v_zret rfl rfl (by decide) ?_
              refine bk_inl ?_
              refine v_if_eq_f (t := 42) rfl (by decide) (by decide) ?_
              refine q_aload_n rfl rfl ?_
              refine q_dup rfl rfl ?_
              refine v_gi (z := 4) (v := (nx F e1 p0)) rfl rfl rfl (by decide) rfl rfl (hz_890) ?_
              refine q_iload_n rfl rfl ?_
              refine v_iadd (v := (nx F e1 p0) + 5) rfl rfl ?_
              refine v_pi (z := 4) rfl rfl rfl (by decide) rfl rfl rfl (by decide) ?_
              refine q_aload_n rfl rfl ?_
              refine q_dup rfl rfl ?_
              refine v_gi (z := 7) (v := o0) rfl rfl rfl (by decide) rfl rfl ((up_n (by decide)).trans (hid kn_896)) ?_
              refine q_iconst rfl ?_
              refine v_iadd (v := o0 + 1) rfl rfl ?_
              refine v_pi (z := 7) rfl rfl rfl (by decide) rfl rfl rfl (by decide) ?_
              refine q_vret rfl rfl ?_
              refine bk_inl ?_
              refine q_aload_n rfl rfl ?_
              refine v_bip rfl (by decide) ?_
              have hI_897 := iw_41_4 (v := (nx F e1 p0) + 5) hI_888 ⟨by first | exact rgp_l (rg_be h_10 ((rg_eq hg_p0 h_5).1) ((rg_eq hg_e1 h_1).2)).1 (by decide) | omega, by first | exact rgp_h (rg_be h_10 ((rg_eq hg_p0 h_5).1) ((rg_eq hg_e1 h_1).2)).2 (by decide) | omega⟩
              have hI_898 := iw_41_7 (v := o0 + 1) hI_897 ⟨by first | exact rgp_l (rg_eq hr_o0 h_8).1 (by decide) | omega, by first | (clear ha2 hq0 hq1 hq3 hq4 hq5 hq8 h_1 h_2 h_3 h_4 h_5 h_6 h_7 h_8 h_9 h_10 h_11 h_46 h_65 h_66 h_75 h_76 h_81 h_82 h_87 h_721 h_727 h_855 h_856 h_857 h_858 h_859 h_860 h_861 h_862 h_863 h_864 h_865 h_866 h_867 h_868 h_869 h_871 h_884 h_886 hq6 hq7 h_12 h_21 h_37 h_870 h_882; omega) | omega⟩
              have kn_899 : Hid (c_62 1 1 = e1) := (hF_64 1 1 (fun q => q.elim (fun h => absurd h.2 (ni rfl)) (fun q => q.elim (fun h => absurd h.2 (ni rfl)) (fun h => absurd h.2 (ni rfl))))).trans (hid kn_39)
              have kn_900 : Hid (c_887 41 3 = e1) := (hF_889 41 3 (fun h => absurd h.2 (ni rfl))).trans (hid kn_883)
              have h_901 : c_62 1 4 = 0 := (hz_68)
              have h_902 : c_62 1 2 = (ln F e1 (nx F e1 p0)) := (hz_67)
              have h_903 : c_62 1 5 = g0 := (hz_69)
              have h_904 : (up (up c_887 41 4 ((nx F e1 p0) + 5)) 41 7 (o0 + 1)) 41 5 = (-1) := ((up_n (by decide)).trans ((up_n (by decide)).trans (hid kn_893)))
              have h_905 : (up (up c_887 41 4 ((nx F e1 p0) + 5)) 41 7 (o0 + 1)) 41 4 = (nx F e1 p0) + 5 := ((up_n (by decide)).trans (up_e rfl))
              have kn_906 : Hid (c_872 41 6 = c 41 6) := hF_874 41 6 (fun h => absurd h.2 (ni rfl))
              have kn_907 : Hid (c_877 41 6 = c 41 6) := (hF_879 41 6 (fun h => absurd h.2 (ni rfl))).trans (hid kn_906)
              have kn_908 : Hid (c_887 41 6 = c 41 6) := (hF_889 41 6 (fun h => absurd h.2 (ni rfl))).trans (hid kn_907)
              have h_909 : (up (up c_887 41 4 ((nx F e1 p0) + 5)) 41 7 (o0 + 1)) 41 6 = c 41 6 := ((up_n (by decide)).trans ((up_n (by decide)).trans (hid kn_908)))
              refine v_cv rfl rfl rfl rfl (by decide) ⟨⟨rfl, rfl⟩, by decide, rfl⟩ (Nat.le_of_ble_eq_true rfl) (Nat.le_of_ble_eq_true rfl) (L_11_3 (m := c_62) (e1 := e1) (a9 := (ln F e1 (nx F e1 p0))) (f0 := 0) (F := F) (H := H) hI_898 hI_63 hI_72 ((hid kn_899)) (((up_n (by decide)).trans ((up_n (by decide)).trans (hid kn_900)))) ((hz_67)) ((hz_68)) (fun j => ((hF_64 2 j (fun q => q.elim (fun h => absurd h.1 (nn rfl)) (fun q => q.elim (fun h => absurd h.1 (nn rfl)) (fun h => absurd h.1 (nn rfl))))).trans ((hF_36 2 j (fun h => absurd h.1 (nn rfl))).trans ((hF_26 2 j (fun h => absurd h.1 (nn rfl))).trans (hF_20 2 j (fun h => absurd h.1 (nn rfl)))))).trans (hF j)) (fun j => ((up_c (nn rfl)).trans ((up_c (nn rfl)).trans ((hF_889 43 j (fun h => absurd h.1 (nn rfl))).trans ((hF_879 43 j (fun h => absurd h.1 (nn rfl))).trans (hF_874 43 j (fun h => absurd h.1 (nn rfl))))))).trans (hH j)) hU (rt_i1 ⟨by first | (clear ha2 hq0 hq1 hq2 hq3 hq4 hq5 hq8 h_1 h_2 h_3 h_4 h_5 h_6 h_7 h_8 h_9 h_10 h_11 h_46 h_65 h_66 h_70 h_75 h_76 h_81 h_82 h_87 h_721 h_727 h_855 h_856 h_857 h_858 h_859 h_860 h_861 h_862 h_863 h_864 h_865 h_866 h_867 h_868 h_869 h_871 h_884 h_886 hq6 hq7 h_12 h_21 h_37 h_870 h_882; omega) | omega, by first | (clear ha2 hq0 hq1 hq2 hq3 hq4 hq5 hq8 h_1 h_2 h_3 h_4 h_5 h_6 h_7 h_8 h_9 h_10 h_11 h_46 h_65 h_66 h_70 h_75 h_76 h_81 h_82 h_87 h_721 h_727 h_855 h_856 h_857 h_858 h_859 h_860 h_861 h_862 h_863 h_864 h_865 h_866 h_867 h_868 h_869 h_871 h_884 h_886 hq6 hq7 h_12 h_21 h_37 h_870 h_882; omega) | omega, by first | (clear ha2 hq0 hq1 hq2 hq3 hq4 hq5 hq8 h_1 h_2 h_3 h_4 h_5 h_6 h_7 h_8 h_9 h_10 h_11 h_46 h_65 h_66 h_70 h_75 h_76 h_81 h_82 h_87 h_721 h_727 h_855 h_856 h_857 h_858 h_859 h_860 h_861 h_862 h_863 h_864 h_865 h_866 h_867 h_868 h_869 h_871 h_884 hq6 hq7 h_12 h_21 h_37 h_870 h_882; omega) | omega, by first | (clear ha2 hq0 hq2 hq3 hq4 hq5 hq8 h_1 h_2 h_3 h_4 h_5 h_6 h_7 h_8 h_9 h_10 h_11 h_46 h_65 h_66 h_70 h_75 h_76 h_81 h_82 h_87 h_721 h_727 h_855 h_856 h_857 h_858 h_859 h_860 h_861 h_862 h_863 h_864 h_865 h_866 h_867 h_868 h_869 h_871 h_884 h_886 hq6 hq7 h_12 h_21 h_37 h_870 h_882; omega) | omega⟩) hG_74 (fun c_910 hI_911 hF_912 hR_914 h_915 h_916 => ?_))
              refine bk_inl ?_
              have h_917 := ir_1_2 hI_72
              refine q_aload_n rfl rfl ?_
              have h_918 := ir_41_5 hI_911
              have h_919 := ir_1_5 hI_72
              have h_920 := ir_41_4 hI_911
              have h_921 := ir_41_6 hI_911
              have h_922 := rt_ok hR_914 (by omega)
              have hro_hR_914 := rt_ok hR_914 (by omega)
              have kn_923 : Hid (c_71 1 1 = e1) := (hF_73 1 1 (fun q => q.elim (fun h => absurd h.2 (ni rfl)) (fun q => q.elim (fun h => absurd h.2 (ni rfl)) (fun h => absurd h.2 (ni rfl))))).trans (hid kn_899)
              have kn_924 : Hid (c_910 41 3 = e1) := (hF_912 41 3 (fun q => q.elim (fun h => absurd h.2 (ni rfl)) (fun q => q.elim (fun h => absurd h.2 (ni rfl)) (fun h => absurd h.2 (ni rfl))))).trans ((up_n (by decide)).trans ((up_n (by decide)).trans (hid kn_900)))
              have kn_925 : Hid (c_18 (A + 7) 5 = n0) := (hF_20 (A + 7) 5 (fun h => absurd h.1 (np hA rfl rfl))).trans (hg_n0)
              have kn_926 : Hid (c_24 (A + 7) 5 = n0) := (hF_26 (A + 7) 5 (fun h => absurd h.1 (np hA rfl rfl))).trans (hid kn_925)
              have kn_927 : Hid (c_34 (A + 7) 5 = n0) := (hF_36 (A + 7) 5 (fun h => absurd h.1 (np hA rfl rfl))).trans (hid kn_926)
              have kn_928 : Hid (c_62 (A + 7) 5 = n0) := (hF_64 (A + 7) 5 (fun q => q.elim (fun h => absurd h.1 (np hA rfl rfl)) (fun q => q.elim (fun h => absurd h.1 (np hA rfl rfl)) (fun h => absurd h.1 (np hA rfl rfl))))).trans (hid kn_927)
              have kn_929 : Hid (c_71 (A + 7) 5 = n0) := (hF_73 (A + 7) 5 (fun q => q.elim (fun h => absurd h.1 (np hA rfl rfl)) (fun q => q.elim (fun h => absurd h.1 (np hA rfl rfl)) (fun h => absurd h.1 (np hA rfl rfl))))).trans (hid kn_928)
              have kn_930 : Hid (c_872 41 29 = n0) := (hF_874 41 29 (fun h => absurd h.2 (ni rfl))).trans (hr_n0)
              have kn_931 : Hid (c_877 41 29 = n0) := (hF_879 41 29 (fun h => absurd h.2 (ni rfl))).trans (hid kn_930)
              have kn_932 : Hid (c_887 41 29 = n0) := (hF_889 41 29 (fun h => absurd h.2 (ni rfl))).trans (hid kn_931)
              have kn_933 : Hid (c_910 41 29 = n0) := (hF_912 41 29 (fun q => q.elim (fun h => absurd h.2 (ni rfl)) (fun q => q.elim (fun h => absurd h.2 (ni rfl)) (fun h => absurd h.2 (ni rfl))))).trans ((up_n (by decide)).trans ((up_n (by decide)).trans (hid kn_932)))
              have kn_934 : Hid (c_910 41 7 = o0 + 1) := (hF_912 41 7 (fun q => q.elim (fun h => absurd h.2 (ni rfl)) (fun q => q.elim (fun h => absurd h.2 (ni rfl)) (fun h => absurd h.2 (ni rfl))))).trans (up_e rfl)
              have hA_935 : Ce n0 (c_71 (A + 9)) (c_910 50) (c_910 51) := ce_fr hr0 (fun j => (hF_73 (A + 9) j (fun q => q.elim (fun h => absurd h.1 (np hA rfl rfl)) (fun q => q.elim (fun h => absurd h.1 (np hA rfl rfl)) (fun h => absurd h.1 (np hA rfl rfl))))).trans ((hF_64 (A + 9) j (fun q => q.elim (fun h => absurd h.1 (np hA rfl rfl)) (fun q => q.elim (fun h => absurd h.1 (np hA rfl rfl)) (fun h => absurd h.1 (np hA rfl rfl))))).trans ((hF_36 (A + 9) j (fun h => absurd h.1 (np hA rfl rfl))).trans ((hF_26 (A + 9) j (fun h => absurd h.1 (np hA rfl rfl))).trans (hF_20 (A + 9) j (fun h => absurd h.1 (np hA rfl rfl))))))) (fun j => (hF_912 50 j (fun q => q.elim (fun h => absurd h.1 (nn rfl)) (fun q => q.elim (fun h => absurd h.1 (nn rfl)) (fun h => absurd h.1 (nn rfl))))).trans ((up_c (nn rfl)).trans ((up_c (nn rfl)).trans ((hF_889 50 j (fun h => absurd h.1 (nn rfl))).trans ((hF_879 50 j (fun h => absurd h.1 (nn rfl))).trans (hF_874 50 j (fun h => absurd h.1 (nn rfl)))))))) (fun j => (hF_912 51 j (fun q => q.elim (fun h => absurd h.1 (nn rfl)) (fun q => q.elim (fun h => absurd h.1 (nn rfl)) (fun h => absurd h.1 (nn rfl))))).trans ((up_c (nn rfl)).trans ((up_c (nn rfl)).trans ((hF_889 51 j (fun h => absurd h.1 (nn rfl))).trans ((hF_879 51 j (fun h => absurd h.1 (nn rfl))).trans (hF_874 51 j (fun h => absurd h.1 (nn rfl))))))))
              refine v_cv rfl rfl rfl rfl (by decide) ⟨⟨rfl, rfl⟩, by decide, rfl⟩ (Nat.le_of_ble_eq_true rfl) (Nat.le_of_ble_eq_true rfl) (H13 (m := c_71) (e1 := e1) (f0 := c_71 1 4) (g0 := c_71 1 5) (p0 := c_71 1 2) (n0 := n0) (o0 := o0 + 1) (by omega) (by omega) hI_911 hI_72 hI_78 (show 0 ≤ a2 + 1 ∧ a2 + 1 ≤ 6 from ⟨by first | exact rgp_l ha2.1 (by decide) | omega, by first | (clear ha2 hq0 hq1 hq2 hq3 hq4 hq5 hq8 h_1 h_2 h_3 h_4 h_5 h_6 h_7 h_8 h_9 h_10 h_11 h_46 h_65 h_66 h_75 h_76 h_81 h_82 h_87 h_721 h_727 h_855 h_856 h_857 h_858 h_859 h_860 h_861 h_862 h_863 h_864 h_865 h_866 h_867 h_868 h_869 h_871 h_884 h_886 h_917 h_918 h_919 h_920 h_921 h_922 hq6 hq7 h_12 h_21 h_37 h_870 h_882 h_915 h_916; omega) | omega⟩) (by first | (clear ha2 hq0 hq1 hq2 hq3 hq4 hq5 hq8 h_1 h_2 h_3 h_4 h_5 h_6 h_7 h_8 h_9 h_10 h_11 h_46 h_65 h_66 h_70 h_81 h_82 h_87 h_721 h_727 h_855 h_856 h_857 h_858 h_859 h_860 h_861 h_862 h_863 h_864 h_865 h_866 h_867 h_868 h_869 h_871 h_884 h_886 h_917 h_918 h_919 h_920 h_921 h_922 hq6 hq7 h_12 h_21 h_37 h_870 h_882 h_915 h_916; omega) | omega) (by first | (clear ha2 hq0 hq1 hq2 hq3 hq4 hq5 hq8 h_1 h_2 h_3 h_4 h_5 h_6 h_7 h_8 h_9 h_10 h_11 h_46 h_65 h_66 h_70 h_75 h_76 h_81 h_82 h_87 h_721 h_727 h_855 h_856 h_857 h_858 h_859 h_860 h_861 h_862 h_863 h_864 h_865 h_866 h_867 h_868 h_869 h_871 h_884 h_886 h_917 h_918 h_920 h_921 hq6 hq7 h_12 h_21 h_37 h_870 h_882 h_915 h_916; omega) | omega) (by first | (clear ha2 hq0 hq1 hq3 hq4 hq5 hq8 h_1 h_2 h_3 h_4 h_5 h_6 h_7 h_8 h_9 h_10 h_11 h_46 h_65 h_66 h_70 h_75 h_76 h_81 h_82 h_87 h_721 h_727 h_855 h_856 h_857 h_858 h_859 h_860 h_861 h_862 h_863 h_864 h_865 h_866 h_867 h_868 h_869 h_871 h_884 h_886 h_917 h_918 h_919 h_920 h_921 h_922 hq6 hq7 h_12 h_21 h_37 h_870 h_882 h_915 h_916; omega) | omega) (by first | (clear ha2 hq0 hq1 hq2 hq8 h_3 h_4 h_8 h_9 h_11 h_65 h_66 h_70 h_81 h_82 h_87 h_721 h_727 h_855 h_856 h_857 h_858 h_859 h_860 h_861 h_862 h_863 h_864 h_865 h_866 h_867 h_868 h_869 h_871 h_884 h_921 h_882; omega) | omega) (by first | (clear ha2 hq0 hq1 hq2 hq3 hq8 h_3 h_4 h_5 h_6 h_7 h_8 h_9 h_11 h_65 h_66 h_70 h_75 h_76 h_81 h_82 h_87 h_721 h_727 h_855 h_856 h_857 h_858 h_859 h_860 h_861 h_862 h_863 h_864 h_865 h_866 h_867 h_868 h_869 h_871 h_884 h_886 h_918 h_919 h_920 h_921 h_882 h_916; omega) | omega) (by first | (clear ha2 hq0 hq1 hq2 hq3 hq4 hq8 h_1 h_2 h_3 h_4 h_5 h_6 h_7 h_8 h_9 h_10 h_11 h_46 h_65 h_66 h_70 h_75 h_76 h_81 h_82 h_87 h_721 h_727 h_855 h_856 h_857 h_858 h_859 h_860 h_861 h_862 h_863 h_864 h_865 h_866 h_867 h_868 h_869 h_871 h_884 h_886 h_917 h_918 h_919 h_920 h_921 h_922 hq6 hq7 h_12 h_21 h_37 h_870 h_882 h_915 h_916; omega) | omega) ((hid kn_923)) ((hid kn_924)) (rfl) (rfl) (rfl) ((hid kn_929)) ((hid kn_933)) ((hid kn_934)) (fun j => ((hF_73 2 j (fun q => q.elim (fun h => absurd h.1 (nn rfl)) (fun q => q.elim (fun h => absurd h.1 (nn rfl)) (fun h => absurd h.1 (nn rfl))))).trans ((hF_64 2 j (fun q => q.elim (fun h => absurd h.1 (nn rfl)) (fun q => q.elim (fun h => absurd h.1 (nn rfl)) (fun h => absurd h.1 (nn rfl))))).trans ((hF_36 2 j (fun h => absurd h.1 (nn rfl))).trans ((hF_26 2 j (fun h => absurd h.1 (nn rfl))).trans (hF_20 2 j (fun h => absurd h.1 (nn rfl))))))).trans (hF j)) (fun j => ((hF_912 43 j (fun q => q.elim (fun h => absurd h.1 (nn rfl)) (fun q => q.elim (fun h => absurd h.1 (nn rfl)) (fun h => absurd h.1 (nn rfl))))).trans ((up_c (nn rfl)).trans ((up_c (nn rfl)).trans ((hF_889 43 j (fun h => absurd h.1 (nn rfl))).trans ((hF_879 43 j (fun h => absurd h.1 (nn rfl))).trans (hF_874 43 j (fun h => absurd h.1 (nn rfl)))))))).trans (hH j)) hU hR_914 (ce_le hA_935 (by omega)) hG_80 (fun c_936 hI_937 hF_938 hR_940 h_941 h_942 hA_943 => ?_))
              refine bk_inl ?_
              have h_944 := ir_41_29 hI_937
              have h_945 := ir_p7_5 hI_78 hA
              have h_946 := ir_1_2 hI_78
              have h_947 := ir_41_7 hI_937
              refine q_aload_n rfl rfl ?_
              refine v_bip rfl (by decide) ?_
              have h_948 := ir_41_5 hI_937
              have h_949 := ir_1_5 hI_78
              have h_950 := ir_41_4 hI_937
              have h_951 := ir_41_6 hI_937
              have h_952 := rt_ok hR_940 (by omega)
              have hro_hR_940 := rt_ok hR_940 (by omega)
              have kn_953 : Hid (c_77 1 1 = e1) := (hF_79 1 1 (fun q => q.elim (fun h => absurd h.2 (ni rfl)) (fun q => q.elim (fun h => absurd h.2 (ni rfl)) (fun q => q.elim (fun h => absurd h.2 (ni rfl)) (fun q => q.elim (fun h => absurd h.1 (pn hA rfl rfl)) (fun h => absurd h (pn hA rfl rfl))))))).trans (hid kn_923)
              have kn_954 : Hid (c_936 41 3 = e1) := (hF_938 41 3 (fun q => q.elim (fun h => absurd h.2 (ni rfl)) (fun q => q.elim (fun h => absurd h.2 (ni rfl)) (fun q => q.elim (fun h => absurd h.2 (ni rfl)) (fun q => q.elim (fun h => absurd h.2 (ni rfl)) (fun q => q.elim (fun h => absurd h.2 (ni rfl)) (fun q => q.elim (fun h => absurd h (nn rfl)) (fun h => absurd h (nn rfl))))))))).trans (hid kn_924)
              refine v_cv rfl rfl rfl rfl (by decide) ⟨⟨rfl, rfl⟩, by decide, rfl⟩ (Nat.le_of_ble_eq_true rfl) (Nat.le_of_ble_eq_true rfl) (L_11_4 (m := c_77) (e1 := e1) (a9 := c_77 1 2) (f0 := c_77 1 4) (F := F) (H := H) hI_937 hI_78 hI_84 ((hid kn_953)) ((hid kn_954)) (rfl) (rfl) (fun j => ((hF_79 2 j (fun q => q.elim (fun h => absurd h.1 (nn rfl)) (fun q => q.elim (fun h => absurd h.1 (nn rfl)) (fun q => q.elim (fun h => absurd h.1 (nn rfl)) (fun q => q.elim (fun h => absurd h.1 (pn hA rfl rfl)) (fun h => absurd h (pn hA rfl rfl))))))).trans ((hF_73 2 j (fun q => q.elim (fun h => absurd h.1 (nn rfl)) (fun q => q.elim (fun h => absurd h.1 (nn rfl)) (fun h => absurd h.1 (nn rfl))))).trans ((hF_64 2 j (fun q => q.elim (fun h => absurd h.1 (nn rfl)) (fun q => q.elim (fun h => absurd h.1 (nn rfl)) (fun h => absurd h.1 (nn rfl))))).trans ((hF_36 2 j (fun h => absurd h.1 (nn rfl))).trans ((hF_26 2 j (fun h => absurd h.1 (nn rfl))).trans (hF_20 2 j (fun h => absurd h.1 (nn rfl)))))))).trans (hF j)) (fun j => ((hF_938 43 j (fun q => q.elim (fun h => absurd h.1 (nn rfl)) (fun q => q.elim (fun h => absurd h.1 (nn rfl)) (fun q => q.elim (fun h => absurd h.1 (nn rfl)) (fun q => q.elim (fun h => absurd h.1 (nn rfl)) (fun q => q.elim (fun h => absurd h.1 (nn rfl)) (fun q => q.elim (fun h => absurd h (nn rfl)) (fun h => absurd h (nn rfl))))))))).trans ((hF_912 43 j (fun q => q.elim (fun h => absurd h.1 (nn rfl)) (fun q => q.elim (fun h => absurd h.1 (nn rfl)) (fun h => absurd h.1 (nn rfl))))).trans ((up_c (nn rfl)).trans ((up_c (nn rfl)).trans ((hF_889 43 j (fun h => absurd h.1 (nn rfl))).trans ((hF_879 43 j (fun h => absurd h.1 (nn rfl))).trans (hF_874 43 j (fun h => absurd h.1 (nn rfl))))))))).trans (hH j)) hU hR_940 hG_86 (fun c_955 hI_956 hF_957 hR_959 h_960 h_961 => ?_))
              refine bk_inl ?_
              have h_962 := ir_1_2 hI_84
              refine q_aload_n rfl rfl ?_
              have h_963 := ir_41_5 hI_956
              have h_964 := ir_41_4 hI_956
              have h_965 := ir_41_6 hI_956
              have h_966 := rt_bad hR_959 (by omega)
              have hrb_hR_959 := rt_bad hR_959 (by omega)
              have h_967 : ¬ c_955 41 5 = -1 := by rw [show c_955 41 5 = c_83 1 5 from hrb_hR_959.2.1]; omega
              refine v_cv rfl rfl rfl rfl (by decide) ⟨⟨rfl, rfl⟩, by decide, rfl⟩ (Nat.le_of_ble_eq_true rfl) (Nat.le_of_ble_eq_true rfl) (n_174 hI_956 (by omega) ?_)
              refine bk_inl ?_
              refine q_aload_n rfl rfl ?_
              refine v_bip rfl (by decide) ?_
              refine v_cv rfl rfl rfl rfl (by decide) ⟨⟨rfl, rfl⟩, by decide, rfl⟩ (Nat.le_of_ble_eq_true rfl) (Nat.le_of_ble_eq_true rfl) ?_
              refine q_aload_n rfl rfl ?_
              refine v_cv rfl rfl rfl rfl (by decide) ⟨⟨rfl, rfl⟩, by decide, rfl⟩ (Nat.le_of_ble_eq_true rfl) (Nat.le_of_ble_eq_true rfl) ?_
              refine q_aload_n rfl rfl ?_
              refine v_gi (z := 5) (v := c_83 1 5) rfl rfl rfl (by decide) rfl rfl hrb_hR_959.2.1 ?_
              refine q_iconst rfl ?_
              refine v_ic_ne_t (t := 12) rfl (by decide) ⟨by first | (clear ha2 hq0 hq1 hq2 hq3 hq4 hq5 hq8 h_1 h_2 h_3 h_4 h_5 h_6 h_7 h_8 h_9 h_10 h_11 h_46 h_65 h_66 h_70 h_75 h_76 h_81 h_82 h_87 h_721 h_727 h_855 h_856 h_857 h_858 h_859 h_860 h_861 h_862 h_863 h_864 h_865 h_866 h_867 h_868 h_869 h_871 h_884 h_886 h_917 h_918 h_919 h_920 h_921 h_922 h_944 h_945 h_946 h_947 h_942 h_948 h_949 h_950 h_951 h_952 h_962 h_963 h_964 h_965 hq6 hq7 h_12 h_21 h_37 h_870 h_882 h_915 h_916 h_941 h_960 h_961; omega) | omega, ⟨(Int.le_trans (by decide) h_721.1), (Int.le_trans h_721.2 (by decide))⟩, by decide, by decide⟩ ?_
              refine q_iconst rfl ?_
              refine v_zret rfl rfl (by decide) ?_
              refine bk_inl ?_
              refine v_if_eq_t (t := 24) rfl (by decide) (by decide) ?_
              refine q_aload_n rfl rfl ?_
              refine v_cv rfl rfl rfl rfl (by decide) ⟨⟨rfl, rfl⟩, by decide, rfl⟩ (Nat.le_of_ble_eq_true rfl) (Nat.le_of_ble_eq_true rfl) ?_
              refine q_aload_n rfl rfl ?_
              refine v_gi (z := 5) (v := c_83 1 5) rfl rfl rfl (by decide) rfl rfl hrb_hR_959.2.1 ?_
              refine q_iconst rfl ?_
              refine v_ic_ne_t (t := 12) rfl (by decide) ⟨by first | (clear ha2 hq0 hq1 hq2 hq3 hq4 hq5 hq8 h_1 h_2 h_3 h_4 h_5 h_6 h_7 h_8 h_9 h_10 h_11 h_46 h_65 h_66 h_70 h_75 h_76 h_81 h_82 h_87 h_721 h_727 h_855 h_856 h_857 h_858 h_859 h_860 h_861 h_862 h_863 h_864 h_865 h_866 h_867 h_868 h_869 h_871 h_884 h_886 h_917 h_918 h_919 h_920 h_921 h_922 h_944 h_945 h_946 h_947 h_942 h_948 h_949 h_950 h_951 h_952 h_962 h_963 h_964 h_965 hq6 hq7 h_12 h_21 h_37 h_870 h_882 h_915 h_916 h_941 h_960 h_961; omega) | omega, ⟨(Int.le_trans (by decide) h_721.1), (Int.le_trans h_721.2 (by decide))⟩, by decide, by decide⟩ ?_
              refine q_iconst rfl ?_
              refine v_zret rfl rfl (by decide) ?_
              refine bk_inl ?_
              refine v_if_eq_t (t := 41) rfl (by decide) (by decide) ?_
              refine q_vret rfl rfl ?_
              refine bk_inl ?_
              refine q_aload_n rfl rfl ?_
              refine q_dup rfl rfl ?_
              have kn_968 : Hid (c_955 41 7 = c_936 41 7) := hF_957 41 7 (fun q => q.elim (fun h => absurd h.2 (ni rfl)) (fun q => q.elim (fun h => absurd h.2 (ni rfl)) (fun h => absurd h.2 (ni rfl))))
              refine v_gi (z := 7) (v := c_936 41 7) rfl rfl rfl (by decide) rfl rfl (hid kn_968) ?_
              refine q_iconst rfl ?_
              refine v_isub (v := c_936 41 7 - 1) rfl rfl ?_
              refine v_pi (z := 7) rfl rfl rfl (by decide) rfl rfl rfl (by decide) ?_
              refine q_aload_n rfl rfl ?_
              refine q_iload_n rfl rfl ?_
              refine q_iconst rfl ?_
              refine v_cv rfl rfl rfl rfl (by decide) ⟨⟨rfl, rfl⟩, by decide, rfl⟩ (Nat.le_of_ble_eq_true rfl) (Nat.le_of_ble_eq_true rfl) ?_
              refine q_aload_n rfl rfl ?_
              refine v_cv rfl rfl rfl rfl (by decide) ⟨⟨rfl, rfl⟩, by decide, rfl⟩ (Nat.le_of_ble_eq_true rfl) (Nat.le_of_ble_eq_true rfl) ?_
              refine q_aload_n rfl rfl ?_
              refine v_gi (z := 5) (v := c_83 1 5) rfl rfl rfl (by decide) rfl rfl (((up_n (by decide))).trans (hrb_hR_959.2.1)) ?_
              refine q_iconst rfl ?_
              refine v_ic_ne_t (t := 12) rfl (by decide) ⟨by first | (clear ha2 hq0 hq1 hq2 hq3 hq4 hq5 hq8 h_1 h_2 h_3 h_4 h_5 h_6 h_7 h_8 h_9 h_10 h_11 h_46 h_65 h_66 h_70 h_75 h_76 h_81 h_82 h_87 h_721 h_727 h_855 h_856 h_857 h_858 h_859 h_860 h_861 h_862 h_863 h_864 h_865 h_866 h_867 h_868 h_869 h_871 h_884 h_886 h_917 h_918 h_919 h_920 h_921 h_922 h_944 h_945 h_946 h_947 h_942 h_948 h_949 h_950 h_951 h_952 h_962 h_963 h_964 h_965 hq6 hq7 h_12 h_21 h_37 h_870 h_882 h_915 h_916 h_941 h_960 h_961; omega) | omega, ⟨(Int.le_trans (by decide) h_721.1), (Int.le_trans h_721.2 (by decide))⟩, by decide, by decide⟩ ?_
              refine q_iconst rfl ?_
              refine v_zret rfl rfl (by decide) ?_
              refine bk_inl ?_
              refine v_if_ne_f (t := 8) rfl (by decide) (by decide) ?_
              refine q_vret rfl rfl ?_
              refine bk_inl ?_
              refine q_vret rfl rfl ?_
              refine bk_inl ?_
              refine q_goto (t := 154) rfl (by decide) ?_
              refine q_vret rfl rfl ?_
              have hI_969 := iw_41_7 (v := c_936 41 7 - 1) hI_956 ⟨by first | (clear hq0 hq1 hq2 hq3 hq4 hq5 hq8 h_1 h_2 h_3 h_4 h_5 h_6 h_7 h_8 h_9 h_10 h_11 h_46 h_65 h_66 h_70 h_75 h_76 h_81 h_82 h_87 h_721 h_727 h_855 h_856 h_857 h_858 h_859 h_860 h_861 h_862 h_863 h_864 h_865 h_866 h_867 h_868 h_869 h_871 h_884 h_886 h_917 h_918 h_919 h_920 h_921 h_922 h_944 h_945 h_946 h_947 h_948 h_949 h_950 h_951 h_952 h_962 h_963 h_964 h_965 h_966 hq6 hq7 h_12 h_21 h_37 h_870 h_882 h_915 h_916 h_941 h_960 h_961; omega) | omega, by first | exact rgm_h h_947.2 (by decide) | omega⟩
              have h_970 : (up c_955 41 7 (c_936 41 7 - 1)) 41 5 = c_83 1 5 := (((up_n (by decide))).trans (hrb_hR_959.2.1))
              have h_971 : (up c_955 41 7 (c_936 41 7 - 1)) 41 4 = c_955 41 4 := (up_n (by decide))
              have h_972 : (up c_955 41 7 (c_936 41 7 - 1)) 41 6 = c_83 1 4 := (((up_n (by decide))).trans (hrb_hR_959.2.2.2))
              have kn_973 : Hid (c_955 41 29 = c_936 41 29) := hF_957 41 29 (fun q => q.elim (fun h => absurd h.2 (ni rfl)) (fun q => q.elim (fun h => absurd h.2 (ni rfl)) (fun h => absurd h.2 (ni rfl))))
              have h_974 : (up c_955 41 7 (c_936 41 7 - 1)) 41 29 = c_936 41 29 := ((up_n (by decide)).trans (hid kn_973))
              have h_975 : (up c_955 41 7 (c_936 41 7 - 1)) 41 7 = c_936 41 7 - 1 := (up_e rfl)
              have h_976 : (up c_955 41 7 (c_936 41 7 - 1)) 41 29 = c_936 41 29 := ((up_n (by decide)).trans (hid kn_973))
              exact K (up c_955 41 7 (c_936 41 7 - 1))  hI_969 (fun a j hm => (up_b (Decidable.or_iff_not_imp_left.mpr (fun h1 h2 => hm (Or.inr (Or.inr (Or.inr (Or.inl ⟨Decidable.not_not.mp h1, h2⟩))))))).trans ((hF_957 a j (fun q => q.elim (fun h => hm (Or.inl h)) (fun q => q.elim (fun h => hm (Or.inr (Or.inl h))) (fun h => hm (Or.inr (Or.inr (Or.inl h))))))).trans ((hF_938 a j (fun q => q.elim (fun h => hm (Or.inl h)) (fun q => q.elim (fun h => hm (Or.inr (Or.inl h))) (fun q => q.elim (fun h => hm (Or.inr (Or.inr (Or.inl h)))) (fun q => q.elim (fun h => hm (Or.inr (Or.inr (Or.inr (Or.inl h))))) (fun q => q.elim (fun h => hm (Or.inr (Or.inr (Or.inr (Or.inr (Or.inl h)))))) (fun q => q.elim (fun h => hm (Or.inr (Or.inr (Or.inr (Or.inr (Or.inr (Or.inl h))))))) (fun h => hm (Or.inr (Or.inr (Or.inr (Or.inr (Or.inr (Or.inr h)))))))))))))).trans ((hF_912 a j (fun q => q.elim (fun h => hm (Or.inl h)) (fun q => q.elim (fun h => hm (Or.inr (Or.inl h))) (fun h => hm (Or.inr (Or.inr (Or.inl h))))))).trans ((up_b (Decidable.or_iff_not_imp_left.mpr (fun h1 h2 => hm (Or.inr (Or.inr (Or.inr (Or.inl ⟨Decidable.not_not.mp h1, h2⟩))))))).trans ((up_b (Decidable.or_iff_not_imp_left.mpr (fun h1 h2 => hm (Or.inl ⟨Decidable.not_not.mp h1, h2⟩)))).trans ((hF_889 a j (fun h => hm (Or.inl h))).trans ((hF_879 a j (fun h => hm (Or.inl h))).trans (hF_874 a j (fun h => hm (Or.inl h))))))))))) (rt_i2 ⟨⟨by first | (clear ha2 hq0 hq1 hq2 hq3 hq4 hq5 hq8 h_1 h_2 h_3 h_4 h_5 h_6 h_7 h_8 h_9 h_10 h_11 h_46 h_65 h_66 h_70 h_75 h_76 h_81 h_82 h_87 h_721 h_727 h_855 h_857 h_858 h_859 h_860 h_861 h_862 h_863 h_864 h_865 h_866 h_867 h_868 h_869 h_871 h_884 h_886 h_917 h_918 h_919 h_920 h_921 h_922 h_944 h_945 h_946 h_947 h_942 h_948 h_949 h_950 h_951 h_952 h_962 h_963 h_964 h_965 hq6 hq7 h_12 h_21 h_37 h_870 h_882 h_915 h_916 h_941 h_960 h_961; omega) | omega, by first | (clear ha2 hq0 hq1 hq2 hq3 hq4 hq5 hq8 h_1 h_2 h_3 h_4 h_5 h_6 h_7 h_8 h_9 h_10 h_11 h_46 h_65 h_66 h_70 h_75 h_76 h_81 h_82 h_87 h_721 h_727 h_856 h_857 h_858 h_859 h_860 h_861 h_862 h_863 h_864 h_865 h_866 h_867 h_868 h_869 h_871 h_884 h_886 h_917 h_918 h_919 h_920 h_921 h_922 h_944 h_945 h_946 h_947 h_942 h_948 h_949 h_950 h_951 h_952 h_962 h_963 h_964 h_965 h_966 hq6 hq7 h_12 h_21 h_37 h_870 h_882 h_915 h_916 h_941 h_960 h_961; omega) | omega⟩, by first | (clear ha2 hq0 hq1 hq2 hq3 hq4 hq5 hq8 h_1 h_2 h_3 h_4 h_5 h_6 h_7 h_8 h_9 h_10 h_11 h_46 h_65 h_66 h_70 h_75 h_76 h_81 h_82 h_87 h_721 h_727 h_855 h_856 h_857 h_858 h_859 h_860 h_862 h_863 h_864 h_865 h_866 h_867 h_868 h_869 h_871 h_884 h_886 h_917 h_918 h_919 h_920 h_921 h_922 h_944 h_945 h_946 h_947 h_942 h_948 h_949 h_950 h_951 h_952 h_962 h_963 h_964 h_965 h_966 hq6 hq7 h_12 h_21 h_37 h_870 h_882 h_915 h_916 h_941 h_960 h_961; omega) | omega, by first | (clear ha2 hq0 hq1 hq2 hq3 hq4 hq5 hq8 h_1 h_2 h_3 h_4 h_5 h_6 h_7 h_8 h_9 h_10 h_11 h_46 h_65 h_66 h_70 h_75 h_76 h_81 h_82 h_87 h_721 h_727 h_855 h_856 h_857 h_858 h_859 h_860 h_862 h_863 h_864 h_865 h_866 h_867 h_868 h_869 h_871 h_884 h_886 h_917 h_918 h_919 h_920 h_921 h_922 h_944 h_945 h_946 h_947 h_942 h_948 h_949 h_950 h_951 h_952 h_962 h_963 h_964 h_965 hq6 hq7 h_12 h_21 h_37 h_870 h_882 h_915 h_916 h_941 h_960 h_961; omega) | omega, by first | (clear ha2 hq0 hq1 hq2 hq3 hq4 hq5 hq8 h_1 h_2 h_3 h_4 h_5 h_6 h_7 h_8 h_9 h_10 h_11 h_46 h_65 h_66 h_70 h_75 h_76 h_81 h_82 h_87 h_721 h_727 h_855 h_857 h_858 h_859 h_860 h_861 h_862 h_863 h_864 h_865 h_866 h_867 h_868 h_869 h_871 h_884 h_886 h_917 h_918 h_919 h_920 h_921 h_922 h_944 h_945 h_946 h_947 h_942 h_948 h_949 h_950 h_951 h_952 h_962 h_963 h_964 h_965 h_966 hq6 hq7 h_12 h_21 h_37 h_870 h_882 h_915 h_916 h_941 h_960 h_961; omega) | omega⟩) (Or.inr (Or.inl (by first | (clear ha2 hq0 hq1 hq2 hq3 hq4 hq5 hq8 h_1 h_2 h_3 h_4 h_5 h_6 h_7 h_8 h_9 h_10 h_11 h_46 h_65 h_66 h_70 h_75 h_76 h_81 h_82 h_87 h_721 h_727 h_855 h_857 h_858 h_859 h_860 h_861 h_862 h_863 h_864 h_865 h_866 h_867 h_868 h_869 h_871 h_884 h_886 h_917 h_918 h_919 h_920 h_921 h_922 h_944 h_945 h_946 h_947 h_942 h_948 h_949 h_950 h_951 h_952 h_962 h_963 h_964 h_965 hq6 hq7 h_12 h_21 h_37 h_870 h_882 h_915 h_916 h_941 h_960 h_961; omega) | omega))) (by first | (clear ha2 hq0 hq1 hq2 hq3 hq4 hq5 hq8 h_1 h_2 h_3 h_4 h_5 h_6 h_7 h_8 h_9 h_10 h_11 h_46 h_65 h_66 h_70 h_75 h_76 h_81 h_82 h_87 h_721 h_727 h_855 h_856 h_857 h_858 h_859 h_860 h_861 h_862 h_863 h_864 h_865 h_866 h_867 h_868 h_869 h_871 h_884 h_886 h_917 h_918 h_919 h_920 h_921 h_922 h_944 h_945 h_946 h_947 h_948 h_949 h_950 h_951 h_952 h_962 h_963 h_964 h_965 h_966 hq6 hq7 h_12 h_21 h_37 h_870 h_882 h_915 h_916 h_941 h_960 h_961; omega) | omega) (fun hz => absurd hz (by omega))
      · as_aux_lemma =>
          skip
          refine v_cv rfl rfl rfl rfl (by decide) ⟨⟨rfl, rfl⟩, by decide, rfl⟩ (Nat.le_of_ble_eq_true rfl) (Nat.le_of_ble_eq_true rfl) ?_
          refine q_aload_n rfl rfl ?_
          refine v_cv rfl rfl rfl rfl (by decide) ⟨⟨rfl, rfl⟩, by decide, rfl⟩ (Nat.le_of_ble_eq_true rfl) (Nat.le_of_ble_eq_true rfl) ?_
          refine q_aload_n rfl rfl ?_
          refine v_gi (z := 4) (v := c_77 1 4) rfl rfl rfl (by decide) rfl rfl rfl ?_
          refine v_if_ne_t (t := 11) rfl (by decide) ⟨by first | (clear ha2 hq0 hq1 hq2 hq3 hq4 hq5 hq8 h_1 h_2 h_3 h_4 h_5 h_6 h_7 h_8 h_9 h_10 h_11 h_46 h_65 h_66 h_70 h_75 h_76 h_81 hq6 hq7 h_12 h_21 h_37; omega) | omega, ⟨(Int.le_trans (by decide) h_81.1), (Int.le_trans h_81.2 (by decide))⟩, by decide, by decide⟩ ?_
          refine q_iconst rfl ?_
          refine v_zret rfl rfl (by decide) ?_
          refine bk_inl ?_
          refine v_if_eq_t (t := 25) rfl (by decide) (by decide) ?_
          refine q_vret rfl rfl ?_
          refine bk_inl ?_
          refine q_aload_n rfl rfl ?_
          refine q_aload_n rfl rfl ?_
          refine q_iload_n rfl rfl ?_
          refine q_iconst rfl ?_
          refine v_iadd (v := a2 + 1) rfl rfl ?_
          have h_977 := ir_1_5 hI_78
          refine v_cv rfl rfl rfl (ck_p7 hA) (a68 hA rfl) ⟨⟨rfl, rfl⟩, by decide, rfl⟩ (Nat.le_of_ble_eq_true rfl) (Nat.le_of_ble_eq_true rfl) (b_13 (a2 := a2 + 1) (f9 := c_77 1 4) (p9 := c_77 1 5) hI_78 hA (show 0 ≤ a2 + 1 ∧ a2 + 1 ≤ 6 from ⟨by first | exact rgp_l ha2.1 (by decide) | omega, by first | (clear ha2 hq0 hq1 hq2 hq3 hq4 hq5 hq8 h_1 h_2 h_3 h_4 h_5 h_6 h_7 h_8 h_9 h_10 h_11 h_46 h_65 h_66 h_75 h_76 h_81 hq6 hq7 h_12 h_21 h_37; omega) | omega⟩) (by omega) (rfl) (rfl) (fun c_978 hI_979 hF_980 hz_981 hz_982 => ?_))
          refine bk_inl ?_
          refine q_aload_n rfl rfl ?_
          refine q_ldc_s rfl rfl rfl (by decide) ?_
          refine v_cv rfl rfl rfl rfl (by decide) ⟨⟨rfl, rfl⟩, by decide, rfl⟩ (Nat.le_of_ble_eq_true rfl) (Nat.le_of_ble_eq_true rfl) ?_
          refine q_aload_n rfl rfl ?_
          refine v_cv rfl rfl rfl rfl (by decide) ⟨⟨rfl, rfl⟩, by decide, rfl⟩ (Nat.le_of_ble_eq_true rfl) (Nat.le_of_ble_eq_true rfl) ?_
          refine q_aload_n rfl rfl ?_
          refine v_gi (z := 4) (v := c_77 1 4) rfl rfl rfl (by decide) rfl rfl (hz_981) ?_
          refine v_if_ne_t (t := 11) rfl (by decide) ⟨by first | (clear ha2 hq0 hq1 hq2 hq3 hq4 hq5 hq8 h_1 h_2 h_3 h_4 h_5 h_6 h_7 h_8 h_9 h_10 h_11 h_46 h_65 h_66 h_70 h_75 h_76 h_81 h_977 hq6 hq7 h_12 h_21 h_37; omega) | omega, ⟨(Int.le_trans (by decide) h_81.1), (Int.le_trans h_81.2 (by decide))⟩, by decide, by decide⟩ ?_
          refine q_iconst rfl ?_
          refine v_zret rfl rfl (by decide) ?_
          refine bk_inl ?_
          refine v_if_eq_t (t := 25) rfl (by decide) (by decide) ?_
          refine q_vret rfl rfl ?_
          refine bk_inl ?_
          refine q_aload_n rfl rfl ?_
          refine v_sip rfl (by decide) ?_
          refine q_iload rfl rfl ?_
          refine v_iadd (v := (wd1_0 F (nx F e1 p0) (ln F e1 (nx F e1 p0))) + 2005) rfl (by first | (clear ha2 hq0 hq1 hq2 hq3 hq4 hq5 hq8 h_1 h_2 h_3 h_4 h_5 h_6 h_7 h_8 h_9 h_10 h_11 h_46 h_65 h_66 h_70 h_75 h_76 h_81 h_977 hq6 hq7 h_12 h_21 h_37; omega) | omega) ?_
          refine v_bip rfl (by decide) ?_
          refine v_isub (v := (wd1_0 F (nx F e1 p0) (ln F e1 (nx F e1 p0))) + 1997) rfl (by first | (clear ha2 hq0 hq1 hq2 hq3 hq4 hq5 hq8 h_1 h_2 h_3 h_4 h_5 h_6 h_7 h_8 h_9 h_10 h_11 h_46 h_65 h_66 h_70 h_75 h_76 h_81 h_977 hq6 hq7 h_12 h_21 h_37; omega) | omega) ?_
          refine v_cv rfl rfl rfl (ck_p7 hA) (a68 hA rfl) ⟨⟨rfl, rfl⟩, by decide, rfl⟩ (Nat.le_of_ble_eq_true rfl) (Nat.le_of_ble_eq_true rfl) ?_
          refine q_aload_n rfl rfl ?_
          have h_983 := ir_p7_5 hI_979 hA
          refine v_gi (z := 5) (v := c_978 (A + 7) 5) rfl rfl (ck_p7 hA) (a68 hA rfl) rfl rfl rfl ?_
          refine q_aload_n rfl rfl ?_
          refine v_gr (t := (A + 9)) rfl rfl (ck_p7 hA) (a68 hA rfl) rfl ?_
          refine v_al rfl (ck_p9 hA) (a68 hA rfl) (by decide) ?_
          by_cases h_984 : c_978 (A + 7) 5 ≥ 150
          · refine v_ic_ge_t (t := 32) rfl (by decide) ⟨by decide, h_984, (Int.le_trans h_983.2 (by decide))⟩ ?_
            refine q_vret rfl rfl ?_
            refine bk_inl ?_
            refine q_vret rfl rfl ?_
            intro hE_985
            have hW : Wd P Q P P c_978 = Wd P Q P P m9 := (Prod.mk.inj (Prod.mk.inj hE_985).2).1
            have h_986 := ir_1_4 hJ9
            have h_987 : m9 1 4 = c_77 1 4 := wd_fv (z := 4) 4 rfl hW rfl rfl rfl rfl (by decide) (hz_981) ⟨(Int.le_trans (by decide) h_81.1), (Int.le_trans h_81.2 (by decide))⟩ ⟨(Int.le_trans (by decide) h_986.1), (Int.le_trans h_986.2 (by decide))⟩
            have h_988 := ir_1_2 hI_979
            have h_989 := ir_1_2 hJ9
            have h_990 : m9 1 2 = c_978 1 2 := wd_fv (z := 2) 2 rfl hW rfl rfl rfl rfl (by decide) rfl ⟨(Int.le_trans (by decide) h_988.1), (Int.le_trans h_988.2 (by decide))⟩ ⟨(Int.le_trans (by decide) h_989.1), (Int.le_trans h_989.2 (by decide))⟩
            have h_991 := ir_1_5 hJ9
            have h_992 : m9 1 5 = c_77 1 5 := wd_fv (z := 5) 5 rfl hW rfl rfl rfl rfl (by decide) (hz_982) ⟨(Int.le_trans (by decide) h_977.1), (Int.le_trans h_977.2 (by decide))⟩ ⟨(Int.le_trans (by decide) h_991.1), (Int.le_trans h_991.2 (by decide))⟩
            have h_993 := ir_p7_5 hJ9 hA
            have h_994 : m9 (A + 7) 5 = c_978 (A + 7) 5 := wd_fv (z := 5) 5 rfl hW (ck_p7 hA) (ck_p7 hA) rfl rfl (by omega) rfl ⟨(Int.le_trans (by decide) h_983.1), (Int.le_trans h_983.2 (by decide))⟩ ⟨(Int.le_trans (by decide) h_993.1), (Int.le_trans h_993.2 (by decide))⟩
            refine q_aload_n rfl rfl ?_
            refine v_cv rfl rfl rfl rfl (by decide) ⟨⟨rfl, rfl⟩, by decide, rfl⟩ (Nat.le_of_ble_eq_true rfl) (Nat.le_of_ble_eq_true rfl) ?_
            refine q_aload_n rfl rfl ?_
            have h_995 := ir_41_5 hI
            have h_996 := ir_41_4 hI
            have h_997 := ir_41_6 hI
            have h_998 := rt_ok hRt (by omega)
            have hro_hRt := rt_ok hRt (by omega)
            refine v_gi (z := 5) (v := (-1)) rfl rfl rfl (by decide) rfl rfl hro_hRt.2.1 ?_
            refine q_iconst rfl ?_
            refine v_ic_ne_f (t := 12) rfl (by decide) (by decide) ?_
            refine q_iconst rfl ?_
            refine q_goto (t := 13) rfl (by decide) ?_
            refine v_zret rfl rfl (by decide) ?_
            refine bk_inl ?_
            refine v_if_ne_t (t := 8) rfl (by decide) (by decide) ?_
            refine q_aload_n rfl rfl ?_
            have h_999 : -2147483648 ≤ (H (nx F e1 p0)) ∧ (H (nx F e1 p0)) ≤ 2147483647 := by rw [← hH (nx F e1 p0)]; exact ir_43 hI (nx F e1 p0)
            have h_1000 := hU (nx F e1 p0) (by omega) (by omega)
            have h_1001 := hb_or (b := H) (e := e1) (r := (nx F e1 p0))
            have h_1002 := hb_bd (b := H) (e := e1) (r := (nx F e1 p0)) (lo := -2147483648) (hi := 2147483647) h_999 (by decide)
            refine v_cv rfl rfl rfl rfl (by decide) ⟨⟨rfl, rfl⟩, by decide, rfl⟩ (Nat.le_of_ble_eq_true rfl) (Nat.le_of_ble_eq_true rfl) (f_154 (e1 := e1) (a9 := p0) (B := H) (r8 := (nx F e1 p0)) (r := (hb H e1 (nx F e1 p0))) hI ((hr_e1)) (((hro_hRt.2.2.1).trans ((hg_p0)))) (fun j => hH j) ((nx_tr hU (by first | (clear ha2 hq0 hq1 hq2 hq3 hq4 hq5 hq8 h_1 h_2 h_3 h_4 h_6 h_7 h_8 h_9 h_10 h_11 h_46 h_65 h_66 h_70 h_75 h_76 h_81 h_977 h_983 h_984 h_986 h_987 h_988 h_989 h_990 h_991 h_992 h_993 h_994 h_995 h_996 h_997 h_998 hq6 hq7 h_12 h_21 h_37; omega) | omega) (by first | (clear ha2 hq0 hq1 hq2 hq3 hq4 hq8 h_1 h_2 h_3 h_4 h_5 h_6 h_7 h_8 h_9 h_10 h_11 h_46 h_65 h_66 h_70 h_75 h_76 h_81 h_977 h_983 h_984 h_986 h_987 h_988 h_989 h_990 h_991 h_992 h_993 h_994 h_995 h_996 h_997 h_998 hq6 hq7 h_12 h_21 h_37; omega) | omega)).trans (rfl)) rfl (fun c_1003 hI_1004 hF_1005 h_1006 => ?_))
            refine bk_inl ?_
            refine v_bip rfl (by decide) ?_
            refine v_ic_ne_t (t := 45) rfl (by decide) ⟨by first | (clear ha2 hq0 hq1 hq2 hq3 hq8 h_3 h_4 h_5 h_6 h_7 h_8 h_9 h_11 h_65 h_66 h_70 h_75 h_76 h_81 h_977 h_983 h_984 h_986 h_987 h_988 h_989 h_990 h_991 h_992 h_993 h_994 h_995 h_996 h_997 h_998; omega) | omega, ⟨h_1002.1, h_1002.2⟩, by decide, by decide⟩ ?_
            refine q_aload_n rfl rfl ?_
            have kn_1007 : Hid (c_1003 41 3 = e1) := (hF_1005 41 3 (fun h => absurd h.2 (ni rfl))).trans (hr_e1)
            refine v_cv rfl rfl rfl rfl (by decide) ⟨⟨rfl, rfl⟩, by decide, rfl⟩ (Nat.le_of_ble_eq_true rfl) (Nat.le_of_ble_eq_true rfl) (f_154 (e1 := e1) (a9 := (nx F e1 p0)) (B := H) (r8 := (nx F e1 p0)) (r := (hb H e1 (nx F e1 p0))) hI_1004 ((hid kn_1007)) ((h_1006)) (fun j => (hF_1005 43 j (fun h => absurd h.1 (nn rfl))).trans (hH j)) ((nx_tr hU (by first | (clear ha2 hq0 hq1 hq2 hq3 hq4 hq5 hq8 h_1 h_2 h_3 h_4 h_6 h_7 h_8 h_9 h_11 h_46 h_65 h_66 h_70 h_75 h_76 h_81 h_977 h_983 h_984 h_986 h_987 h_988 h_989 h_990 h_991 h_992 h_993 h_994 h_995 h_996 h_997 h_998 h_999 h_1000 h_1002 hq6 hq7 h_12 h_21 h_37 h_1001; omega) | omega) (by first | (clear ha2 hq0 hq1 hq2 hq3 hq4 hq8 h_1 h_2 h_3 h_4 h_5 h_6 h_7 h_8 h_9 h_10 h_11 h_46 h_65 h_66 h_70 h_75 h_76 h_81 h_977 h_983 h_984 h_986 h_987 h_988 h_989 h_990 h_991 h_992 h_993 h_994 h_995 h_996 h_997 h_998 h_999 h_1000 h_1002 hq6 hq7 h_12 h_21 h_37 h_1001; omega) | omega)).trans ((nx_z (by omega)))) rfl (fun c_1008 hI_1009 hF_1010 h_1011 => ?_))
            refine bk_inl ?_
            refine q_call rfl rfl rfl rfl (f_156 (a0 := (hb H e1 (nx F e1 p0))) hI_1009 (show (-2147483648) ≤ (hb H e1 (nx F e1 p0)) ∧ (hb H e1 (nx F e1 p0)) ≤ 2147483647 from h_1002) (fun y_1012 hy_1012 h_1013 => ?_))
            refine bk_inl ?_
            refine v_if_eq_t (t := 71) rfl (by decide) (by first | (clear ha2 hq0 hq1 hq2 hq3 hq8 h_3 h_4 h_5 h_6 h_7 h_8 h_9 h_11 h_65 h_66 h_70 h_75 h_76 h_81 h_977 h_983 h_984 h_986 h_987 h_988 h_989 h_990 h_991 h_992 h_993 h_994 h_995 h_996 h_997 h_998; omega) | omega) ?_
            refine q_aload_n rfl rfl ?_
            have kn_1014 : Hid (c_1008 41 3 = e1) := (hF_1010 41 3 (fun h => absurd h.2 (ni rfl))).trans (hid kn_1007)
            have h_1015 := wv_bd (b := F) (r := (nx F e1 p0)) (l := (ln F e1 (nx F e1 p0))) (fun j h1 h2 => ⟨(ln_in (e := e1) (a := (nx F e1 p0)) h1 h2).1, (ln_in (e := e1) (a := (nx F e1 p0)) h1 h2).2.1⟩)
            have h_1016 := wr1_8 (b := F) (r := (nx F e1 p0)) (l := (ln F e1 (nx F e1 p0))) (by omega) (fun j h1 h2 => ⟨(ln_in (e := e1) (a := (nx F e1 p0)) h1 h2).1, (ln_in (e := e1) (a := (nx F e1 p0)) h1 h2).2.1⟩) (by omega)
            have h_1017 : (wv F (nx F e1 p0) (ln F e1 (nx F e1 p0))) = 12748404 → (ln F e1 (nx F e1 p0)) - (nx F e1 p0) = 5 := wl_least (by omega) (fun j h1 h2 => ⟨(ln_in (e := e1) (a := (nx F e1 p0)) h1 h2).1, (ln_in (e := e1) (a := (nx F e1 p0)) h1 h2).2.1⟩)
            refine v_cv rfl rfl rfl rfl (by decide) ⟨⟨rfl, rfl⟩, by decide, rfl⟩ (Nat.le_of_ble_eq_true rfl) (Nat.le_of_ble_eq_true rfl) (f_157 (e1 := e1) (a9 := (nx F e1 p0)) (B := H) (r8 := (nx F e1 p0)) (L8 := (ln F e1 (nx F e1 p0))) (W8 := (wv F (nx F e1 p0) (ln F e1 (nx F e1 p0)))) hI_1009 ((hid kn_1014)) ((h_1011)) (fun j => ((hF_1010 43 j (fun h => absurd h.1 (nn rfl))).trans (hF_1005 43 j (fun h => absurd h.1 (nn rfl)))).trans (hH j)) ((nx_tr hU (by first | (clear ha2 hq0 hq1 hq2 hq3 hq4 hq5 hq8 h_1 h_2 h_3 h_4 h_6 h_7 h_8 h_9 h_11 h_46 h_65 h_66 h_70 h_75 h_76 h_81 h_977 h_983 h_984 h_986 h_987 h_988 h_989 h_990 h_991 h_992 h_993 h_994 h_995 h_996 h_997 h_998 h_999 h_1000 h_1002 hq6 hq7 h_12 h_21 h_37 h_1001 h_1013; omega) | omega) (by first | (clear ha2 hq0 hq1 hq2 hq3 hq4 hq8 h_1 h_2 h_3 h_4 h_5 h_6 h_7 h_8 h_9 h_10 h_11 h_46 h_65 h_66 h_70 h_75 h_76 h_81 h_977 h_983 h_984 h_986 h_987 h_988 h_989 h_990 h_991 h_992 h_993 h_994 h_995 h_996 h_997 h_998 h_999 h_1000 h_1002 hq6 hq7 h_12 h_21 h_37 h_1001 h_1013; omega) | omega)).trans ((nx_z (by omega)))) ((ln_tr hU (by first | (clear ha2 hq0 hq1 hq2 hq3 hq4 hq5 hq8 h_1 h_2 h_3 h_4 h_6 h_7 h_8 h_9 h_11 h_46 h_65 h_66 h_70 h_75 h_76 h_81 h_977 h_983 h_984 h_986 h_987 h_988 h_989 h_990 h_991 h_992 h_993 h_994 h_995 h_996 h_997 h_998 h_999 h_1000 h_1002 hq6 hq7 h_12 h_21 h_37 h_1001 h_1013; omega) | omega) (by first | (clear ha2 hq0 hq1 hq2 hq3 hq4 hq8 h_1 h_2 h_3 h_4 h_5 h_6 h_7 h_8 h_9 h_10 h_11 h_46 h_65 h_66 h_70 h_75 h_76 h_81 h_977 h_983 h_984 h_986 h_987 h_988 h_989 h_990 h_991 h_992 h_993 h_994 h_995 h_996 h_997 h_998 h_999 h_1000 h_1002 hq6 hq7 h_12 h_21 h_37 h_1001 h_1013; omega) | omega)).trans (rfl)) ((wv_tr hU (by first | (clear ha2 hq0 hq1 hq2 hq3 hq4 hq5 hq8 h_1 h_2 h_3 h_4 h_6 h_7 h_8 h_9 h_11 h_46 h_65 h_66 h_70 h_75 h_76 h_81 h_977 h_983 h_984 h_986 h_987 h_988 h_989 h_990 h_991 h_992 h_993 h_994 h_995 h_996 h_997 h_998 h_999 h_1000 h_1002 h_1015 h_1017 hq6 hq7 h_12 h_21 h_37 h_1001 h_1013; omega) | omega) (by first | (clear ha2 hq0 hq1 hq2 hq3 hq4 hq8 h_1 h_2 h_3 h_4 h_5 h_6 h_7 h_8 h_9 h_10 h_11 h_65 h_66 h_70 h_75 h_76 h_81 h_977 h_983 h_984 h_986 h_987 h_988 h_989 h_990 h_991 h_992 h_993 h_994 h_995 h_996 h_997 h_998 h_999 h_1000 h_1002 h_1015 h_1017 hq6 hq7 h_12 h_21 h_37 h_1001 h_1013; omega) | omega) (fun j h1 h2 => ⟨(ln_in (e := e1) (a := (nx F e1 p0)) h1 h2).1, (ln_in (e := e1) (a := (nx F e1 p0)) h1 h2).2.1⟩)).trans (rfl)) (fun c_1018 hI_1019 hF_1020 hz_1021 => ?_))
            refine bk_inl ?_
            refine q_ldc_w_s rfl rfl rfl (by decide) ?_
            refine q_call rfl rfl rfl rfl (s_158_20 ?_)
            refine bk_inl ?_
            refine v_ic_ne_f (t := 94) rfl (by decide) (by first | (clear ha2 hq0 hq1 hq2 hq3 hq4 hq5 hq8 h_1 h_2 h_3 h_4 h_5 h_6 h_7 h_8 h_9 h_10 h_11 h_46 h_65 h_66 h_70 h_75 h_76 h_81 h_977 h_983 h_984 h_986 h_987 h_988 h_989 h_990 h_991 h_992 h_993 h_994 h_995 h_996 h_997 h_998 h_999 h_1000 h_1002 h_1015 hq6 hq7 h_12 h_21 h_37 h_1001 h_1013; omega) | omega) ?_
            refine q_aload_n rfl rfl ?_
            refine q_iconst rfl ?_
            refine v_bip rfl (by decide) ?_
            refine v_cv rfl rfl rfl rfl (by decide) ⟨⟨rfl, rfl⟩, by decide, rfl⟩ (Nat.le_of_ble_eq_true rfl) (Nat.le_of_ble_eq_true rfl) ?_
            refine q_aload_n rfl rfl ?_
            refine q_iload_n rfl rfl ?_
            refine v_cv rfl rfl rfl rfl (by decide) ⟨⟨rfl, rfl⟩, by decide, rfl⟩ (Nat.le_of_ble_eq_true rfl) (Nat.le_of_ble_eq_true rfl) ?_
            refine q_aload_n rfl rfl ?_
            refine v_cv rfl rfl rfl rfl (by decide) ⟨⟨rfl, rfl⟩, by decide, rfl⟩ (Nat.le_of_ble_eq_true rfl) (Nat.le_of_ble_eq_true rfl) ?_
            refine q_aload_n rfl rfl ?_
            have kn_1022 : Hid (c_1003 41 5 = (-1)) := (hF_1005 41 5 (fun h => absurd h.2 (ni rfl))).trans hro_hRt.2.1
            have kn_1023 : Hid (c_1008 41 5 = (-1)) := (hF_1010 41 5 (fun h => absurd h.2 (ni rfl))).trans (hid kn_1022)
            have kn_1024 : Hid (c_1018 41 5 = (-1)) := (hF_1020 41 5 (fun h => absurd h.2 (ni rfl))).trans (hid kn_1023)
            refine v_gi (z := 5) (v := (-1)) rfl rfl rfl (by decide) rfl rfl (hid kn_1024) ?_
            refine q_iconst rfl ?_
            refine v_ic_ne_f (t := 12) rfl (by decide) (by decide) ?_
            refine q_iconst rfl ?_
            refine q_goto (t := 13) rfl (by decide) ?_
            refine v_zret rfl rfl (by decide) ?_
            refine bk_inl ?_
            refine v_if_eq_f (t := 25) rfl (by decide) (by decide) ?_
            refine q_aload_n rfl rfl ?_
            have kn_1025 : Hid (c_1003 41 7 = o0) := (hF_1005 41 7 (fun h => absurd h.2 (ni rfl))).trans (hr_o0)
            have kn_1026 : Hid (c_1008 41 7 = o0) := (hF_1010 41 7 (fun h => absurd h.2 (ni rfl))).trans (hid kn_1025)
            have kn_1027 : Hid (c_1018 41 7 = o0) := (hF_1020 41 7 (fun h => absurd h.2 (ni rfl))).trans (hid kn_1026)
            refine v_gi (z := 7) (v := o0) rfl rfl rfl (by decide) rfl rfl (hid kn_1027) ?_
            refine v_bip rfl (by decide) ?_
            refine v_ic_ne_t (t := 25) rfl (by decide) ⟨by first | (clear ha2 hq0 hq1 hq3 hq4 hq5 hq8 h_1 h_2 h_3 h_4 h_5 h_6 h_7 h_8 h_9 h_10 h_11 h_46 h_65 h_66 h_75 h_76 h_81 h_977 h_983 h_984 h_986 h_987 h_988 h_989 h_990 h_991 h_992 h_993 h_994 h_995 h_996 h_997 h_998 h_999 h_1000 h_1002 h_1015 h_1017 hq6 hq7 h_12 h_21 h_37 h_1001 h_1013; omega) | omega, ⟨(Int.le_trans (by decide) (rg_eq hr_o0 h_8).1), (Int.le_trans (rg_eq hr_o0 h_8).2 (by decide))⟩, by decide, by decide⟩ ?_
            refine q_aload_n rfl rfl ?_
            refine v_cv rfl rfl rfl rfl (by decide) ⟨⟨rfl, rfl⟩, by decide, rfl⟩ (Nat.le_of_ble_eq_true rfl) (Nat.le_of_ble_eq_true rfl) ?_
            refine q_aload_n rfl rfl ?_
            refine v_gi (z := 5) (v := (-1)) rfl rfl rfl (by decide) rfl rfl (hid kn_1024) ?_
            refine q_iconst rfl ?_
            refine v_ic_ne_f (t := 12) rfl (by decide) (by decide) ?_
            refine q_iconst rfl ?_
            refine q_goto (t := 13) rfl (by decide) ?_
            refine v_zret rfl rfl (by decide) ?_
            refine bk_inl ?_
            refine v_if_eq_f (t := 42) rfl (by decide) (by decide) ?_
            refine q_aload_n rfl rfl ?_
            refine q_dup rfl rfl ?_
            refine v_gi (z := 4) (v := (nx F e1 p0)) rfl rfl rfl (by decide) rfl rfl (hz_1021) ?_
            refine q_iload_n rfl rfl ?_
            refine v_iadd (v := (nx F e1 p0) + 5) rfl rfl ?_
            refine v_pi (z := 4) rfl rfl rfl (by decide) rfl rfl rfl (by decide) ?_
            refine q_aload_n rfl rfl ?_
            refine q_dup rfl rfl ?_
            refine v_gi (z := 7) (v := o0) rfl rfl rfl (by decide) rfl rfl ((up_n (by decide)).trans (hid kn_1027)) ?_
            refine q_iconst rfl ?_
            refine v_iadd (v := o0 + 1) rfl rfl ?_
            refine v_pi (z := 7) rfl rfl rfl (by decide) rfl rfl rfl (by decide) ?_
            refine q_vret rfl rfl ?_
            refine bk_inl ?_
            refine q_aload_n rfl rfl ?_
            refine v_bip rfl (by decide) ?_
            have hI_1028 := iw_41_4 (v := (nx F e1 p0) + 5) hI_1019 ⟨by first | exact rgp_l (rg_be h_10 ((rg_eq hg_p0 h_5).1) ((rg_eq hg_e1 h_1).2)).1 (by decide) | omega, by first | exact rgp_h (rg_be h_10 ((rg_eq hg_p0 h_5).1) ((rg_eq hg_e1 h_1).2)).2 (by decide) | omega⟩
            have hI_1029 := iw_41_7 (v := o0 + 1) hI_1028 ⟨by first | exact rgp_l (rg_eq hr_o0 h_8).1 (by decide) | omega, by first | (clear ha2 hq0 hq1 hq3 hq4 hq5 hq8 h_1 h_2 h_3 h_4 h_5 h_6 h_7 h_8 h_9 h_10 h_11 h_46 h_65 h_66 h_75 h_76 h_81 h_977 h_983 h_984 h_986 h_987 h_988 h_989 h_990 h_991 h_992 h_993 h_994 h_995 h_996 h_997 h_998 h_999 h_1000 h_1002 h_1015 h_1017 hq6 hq7 h_12 h_21 h_37 h_1001 h_1013; omega) | omega⟩
            have kn_1030 : Hid (c_62 1 1 = e1) := (hF_64 1 1 (fun q => q.elim (fun h => absurd h.2 (ni rfl)) (fun q => q.elim (fun h => absurd h.2 (ni rfl)) (fun h => absurd h.2 (ni rfl))))).trans (hid kn_39)
            have kn_1031 : Hid (c_1018 41 3 = e1) := (hF_1020 41 3 (fun h => absurd h.2 (ni rfl))).trans (hid kn_1014)
            have h_1032 : c_62 1 4 = 0 := (hz_68)
            have h_1033 : c_62 1 2 = (ln F e1 (nx F e1 p0)) := (hz_67)
            have h_1034 : c_62 1 5 = g0 := (hz_69)
            have h_1035 : (up (up c_1018 41 4 ((nx F e1 p0) + 5)) 41 7 (o0 + 1)) 41 5 = (-1) := ((up_n (by decide)).trans ((up_n (by decide)).trans (hid kn_1024)))
            have h_1036 : (up (up c_1018 41 4 ((nx F e1 p0) + 5)) 41 7 (o0 + 1)) 41 4 = (nx F e1 p0) + 5 := ((up_n (by decide)).trans (up_e rfl))
            have kn_1037 : Hid (c_1003 41 6 = c 41 6) := hF_1005 41 6 (fun h => absurd h.2 (ni rfl))
            have kn_1038 : Hid (c_1008 41 6 = c 41 6) := (hF_1010 41 6 (fun h => absurd h.2 (ni rfl))).trans (hid kn_1037)
            have kn_1039 : Hid (c_1018 41 6 = c 41 6) := (hF_1020 41 6 (fun h => absurd h.2 (ni rfl))).trans (hid kn_1038)
            have h_1040 : (up (up c_1018 41 4 ((nx F e1 p0) + 5)) 41 7 (o0 + 1)) 41 6 = c 41 6 := ((up_n (by decide)).trans ((up_n (by decide)).trans (hid kn_1039)))
            refine v_cv rfl rfl rfl rfl (by decide) ⟨⟨rfl, rfl⟩, by decide, rfl⟩ (Nat.le_of_ble_eq_true rfl) (Nat.le_of_ble_eq_true rfl) (L_11_3 (m := c_62) (e1 := e1) (a9 := (ln F e1 (nx F e1 p0))) (f0 := 0) (F := F) (H := H) hI_1029 hI_63 hI_72 ((hid kn_1030)) (((up_n (by decide)).trans ((up_n (by decide)).trans (hid kn_1031)))) ((hz_67)) ((hz_68)) (fun j => ((hF_64 2 j (fun q => q.elim (fun h => absurd h.1 (nn rfl)) (fun q => q.elim (fun h => absurd h.1 (nn rfl)) (fun h => absurd h.1 (nn rfl))))).trans ((hF_36 2 j (fun h => absurd h.1 (nn rfl))).trans ((hF_26 2 j (fun h => absurd h.1 (nn rfl))).trans (hF_20 2 j (fun h => absurd h.1 (nn rfl)))))).trans (hF j)) (fun j => ((up_c (nn rfl)).trans ((up_c (nn rfl)).trans ((hF_1020 43 j (fun h => absurd h.1 (nn rfl))).trans ((hF_1010 43 j (fun h => absurd h.1 (nn rfl))).trans (hF_1005 43 j (fun h => absurd h.1 (nn rfl))))))).trans (hH j)) hU (rt_i1 ⟨by first | (clear ha2 hq0 hq1 hq2 hq3 hq4 hq5 hq8 h_1 h_2 h_3 h_4 h_5 h_6 h_7 h_8 h_9 h_10 h_11 h_46 h_65 h_66 h_70 h_75 h_76 h_81 h_977 h_983 h_984 h_986 h_987 h_988 h_989 h_990 h_991 h_992 h_993 h_994 h_995 h_996 h_997 h_998 h_999 h_1000 h_1002 h_1015 h_1017 hq6 hq7 h_12 h_21 h_37 h_1001 h_1013; omega) | omega, by first | (clear ha2 hq0 hq1 hq2 hq3 hq4 hq5 hq8 h_1 h_2 h_3 h_4 h_5 h_6 h_7 h_8 h_9 h_10 h_11 h_46 h_65 h_66 h_70 h_75 h_76 h_81 h_977 h_983 h_984 h_986 h_987 h_988 h_989 h_990 h_991 h_992 h_993 h_994 h_995 h_996 h_997 h_998 h_999 h_1000 h_1002 h_1015 h_1017 hq6 hq7 h_12 h_21 h_37 h_1001 h_1013; omega) | omega, by first | (clear ha2 hq0 hq1 hq2 hq3 hq4 hq5 hq8 h_1 h_2 h_3 h_4 h_5 h_6 h_7 h_8 h_9 h_10 h_11 h_46 h_65 h_66 h_70 h_75 h_76 h_81 h_977 h_983 h_984 h_986 h_987 h_988 h_989 h_990 h_991 h_992 h_993 h_994 h_995 h_996 h_997 h_998 h_999 h_1000 h_1002 h_1015 hq6 hq7 h_12 h_21 h_37 h_1001 h_1013; omega) | omega, by first | (clear ha2 hq0 hq2 hq3 hq4 hq5 hq8 h_1 h_2 h_3 h_4 h_5 h_6 h_7 h_8 h_9 h_10 h_11 h_46 h_65 h_66 h_70 h_75 h_76 h_81 h_977 h_983 h_984 h_986 h_987 h_988 h_989 h_990 h_991 h_992 h_993 h_994 h_995 h_996 h_997 h_998 h_999 h_1000 h_1002 h_1015 h_1017 hq6 hq7 h_12 h_21 h_37 h_1001 h_1013; omega) | omega⟩) hG_74 (fun c_1041 hI_1042 hF_1043 hR_1045 h_1046 h_1047 => ?_))
            refine bk_inl ?_
            have h_1048 := ir_1_2 hI_72
            refine q_aload_n rfl rfl ?_
            have h_1049 := ir_41_5 hI_1042
            have h_1050 := ir_1_5 hI_72
            have h_1051 := ir_41_4 hI_1042
            have h_1052 := ir_41_6 hI_1042
            have h_1053 := rt_ok hR_1045 (by omega)
            have hro_hR_1045 := rt_ok hR_1045 (by omega)
            have kn_1054 : Hid (c_71 1 1 = e1) := (hF_73 1 1 (fun q => q.elim (fun h => absurd h.2 (ni rfl)) (fun q => q.elim (fun h => absurd h.2 (ni rfl)) (fun h => absurd h.2 (ni rfl))))).trans (hid kn_1030)
            have kn_1055 : Hid (c_1041 41 3 = e1) := (hF_1043 41 3 (fun q => q.elim (fun h => absurd h.2 (ni rfl)) (fun q => q.elim (fun h => absurd h.2 (ni rfl)) (fun h => absurd h.2 (ni rfl))))).trans ((up_n (by decide)).trans ((up_n (by decide)).trans (hid kn_1031)))
            have kn_1056 : Hid (c_18 (A + 7) 5 = n0) := (hF_20 (A + 7) 5 (fun h => absurd h.1 (np hA rfl rfl))).trans (hg_n0)
            have kn_1057 : Hid (c_24 (A + 7) 5 = n0) := (hF_26 (A + 7) 5 (fun h => absurd h.1 (np hA rfl rfl))).trans (hid kn_1056)
            have kn_1058 : Hid (c_34 (A + 7) 5 = n0) := (hF_36 (A + 7) 5 (fun h => absurd h.1 (np hA rfl rfl))).trans (hid kn_1057)
            have kn_1059 : Hid (c_62 (A + 7) 5 = n0) := (hF_64 (A + 7) 5 (fun q => q.elim (fun h => absurd h.1 (np hA rfl rfl)) (fun q => q.elim (fun h => absurd h.1 (np hA rfl rfl)) (fun h => absurd h.1 (np hA rfl rfl))))).trans (hid kn_1058)
            have kn_1060 : Hid (c_71 (A + 7) 5 = n0) := (hF_73 (A + 7) 5 (fun q => q.elim (fun h => absurd h.1 (np hA rfl rfl)) (fun q => q.elim (fun h => absurd h.1 (np hA rfl rfl)) (fun h => absurd h.1 (np hA rfl rfl))))).trans (hid kn_1059)
            have kn_1061 : Hid (c_1003 41 29 = n0) := (hF_1005 41 29 (fun h => absurd h.2 (ni rfl))).trans (hr_n0)
            have kn_1062 : Hid (c_1008 41 29 = n0) := (hF_1010 41 29 (fun h => absurd h.2 (ni rfl))).trans (hid kn_1061)
            have kn_1063 : Hid (c_1018 41 29 = n0) := (hF_1020 41 29 (fun h => absurd h.2 (ni rfl))).trans (hid kn_1062)
            have kn_1064 : Hid (c_1041 41 29 = n0) := (hF_1043 41 29 (fun q => q.elim (fun h => absurd h.2 (ni rfl)) (fun q => q.elim (fun h => absurd h.2 (ni rfl)) (fun h => absurd h.2 (ni rfl))))).trans ((up_n (by decide)).trans ((up_n (by decide)).trans (hid kn_1063)))
            have kn_1065 : Hid (c_1041 41 7 = o0 + 1) := (hF_1043 41 7 (fun q => q.elim (fun h => absurd h.2 (ni rfl)) (fun q => q.elim (fun h => absurd h.2 (ni rfl)) (fun h => absurd h.2 (ni rfl))))).trans (up_e rfl)
            have hA_1066 : Ce n0 (c_71 (A + 9)) (c_1041 50) (c_1041 51) := ce_fr hr0 (fun j => (hF_73 (A + 9) j (fun q => q.elim (fun h => absurd h.1 (np hA rfl rfl)) (fun q => q.elim (fun h => absurd h.1 (np hA rfl rfl)) (fun h => absurd h.1 (np hA rfl rfl))))).trans ((hF_64 (A + 9) j (fun q => q.elim (fun h => absurd h.1 (np hA rfl rfl)) (fun q => q.elim (fun h => absurd h.1 (np hA rfl rfl)) (fun h => absurd h.1 (np hA rfl rfl))))).trans ((hF_36 (A + 9) j (fun h => absurd h.1 (np hA rfl rfl))).trans ((hF_26 (A + 9) j (fun h => absurd h.1 (np hA rfl rfl))).trans (hF_20 (A + 9) j (fun h => absurd h.1 (np hA rfl rfl))))))) (fun j => (hF_1043 50 j (fun q => q.elim (fun h => absurd h.1 (nn rfl)) (fun q => q.elim (fun h => absurd h.1 (nn rfl)) (fun h => absurd h.1 (nn rfl))))).trans ((up_c (nn rfl)).trans ((up_c (nn rfl)).trans ((hF_1020 50 j (fun h => absurd h.1 (nn rfl))).trans ((hF_1010 50 j (fun h => absurd h.1 (nn rfl))).trans (hF_1005 50 j (fun h => absurd h.1 (nn rfl)))))))) (fun j => (hF_1043 51 j (fun q => q.elim (fun h => absurd h.1 (nn rfl)) (fun q => q.elim (fun h => absurd h.1 (nn rfl)) (fun h => absurd h.1 (nn rfl))))).trans ((up_c (nn rfl)).trans ((up_c (nn rfl)).trans ((hF_1020 51 j (fun h => absurd h.1 (nn rfl))).trans ((hF_1010 51 j (fun h => absurd h.1 (nn rfl))).trans (hF_1005 51 j (fun h => absurd h.1 (nn rfl))))))))
            refine v_cv rfl rfl rfl rfl (by decide) ⟨⟨rfl, rfl⟩, by decide, rfl⟩ (Nat.le_of_ble_eq_true rfl) (Nat.le_of_ble_eq_true rfl) (H13 (m := c_71) (e1 := e1) (f0 := c_71 1 4) (g0 := c_71 1 5) (p0 := c_71 1 2) (n0 := n0) (o0 := o0 + 1) (by omega) (by omega) hI_1042 hI_72 hI_78 (show 0 ≤ a2 + 1 ∧ a2 + 1 ≤ 6 from ⟨by first | exact rgp_l ha2.1 (by decide) | omega, by first | (clear ha2 hq0 hq1 hq2 hq3 hq4 hq5 hq8 h_1 h_2 h_3 h_4 h_5 h_6 h_7 h_8 h_9 h_10 h_11 h_46 h_65 h_66 h_75 h_76 h_81 h_977 h_983 h_984 h_986 h_987 h_988 h_989 h_990 h_991 h_992 h_993 h_994 h_995 h_996 h_997 h_998 h_999 h_1000 h_1002 h_1015 h_1017 h_1048 h_1049 h_1050 h_1051 h_1052 h_1053 hq6 hq7 h_12 h_21 h_37 h_1001 h_1013 h_1046 h_1047; omega) | omega⟩) (by first | (clear ha2 hq0 hq1 hq2 hq3 hq4 hq5 hq8 h_1 h_2 h_3 h_4 h_5 h_6 h_7 h_8 h_9 h_10 h_11 h_46 h_65 h_66 h_70 h_81 h_977 h_983 h_984 h_986 h_987 h_988 h_989 h_990 h_991 h_992 h_993 h_994 h_995 h_996 h_997 h_998 h_999 h_1000 h_1002 h_1015 h_1017 h_1048 h_1049 h_1050 h_1051 h_1052 h_1053 hq6 hq7 h_12 h_21 h_37 h_1001 h_1013 h_1046 h_1047; omega) | omega) (by first | (clear ha2 hq0 hq1 hq2 hq3 hq4 hq5 hq8 h_1 h_2 h_3 h_4 h_5 h_6 h_7 h_8 h_9 h_10 h_11 h_46 h_65 h_66 h_70 h_75 h_76 h_81 h_977 h_983 h_984 h_986 h_987 h_988 h_989 h_990 h_991 h_992 h_993 h_994 h_995 h_996 h_997 h_998 h_999 h_1000 h_1002 h_1015 h_1017 h_1048 h_1049 h_1051 h_1052 hq6 hq7 h_12 h_21 h_37 h_1001 h_1013 h_1046 h_1047; omega) | omega) (by first | (clear ha2 hq0 hq1 hq3 hq4 hq5 hq8 h_1 h_2 h_3 h_4 h_5 h_6 h_7 h_8 h_9 h_10 h_11 h_46 h_65 h_66 h_70 h_75 h_76 h_81 h_977 h_983 h_984 h_986 h_987 h_988 h_989 h_990 h_991 h_992 h_993 h_994 h_995 h_996 h_997 h_998 h_999 h_1000 h_1002 h_1015 h_1017 h_1048 h_1049 h_1050 h_1051 h_1052 h_1053 hq6 hq7 h_12 h_21 h_37 h_1001 h_1013 h_1046 h_1047; omega) | omega) (by first | (clear ha2 hq0 hq1 hq2 hq8 h_3 h_4 h_8 h_9 h_11 h_65 h_66 h_70 h_81 h_977 h_983 h_984 h_986 h_987 h_988 h_989 h_990 h_991 h_992 h_993 h_994 h_995 h_996 h_997 h_998 h_999 h_1000 h_1002 h_1015 h_1052 h_1013; omega) | omega) (by first | (clear ha2 hq0 hq1 hq2 hq3 hq8 h_3 h_4 h_5 h_6 h_7 h_8 h_9 h_11 h_65 h_66 h_70 h_75 h_76 h_81 h_977 h_983 h_984 h_986 h_987 h_988 h_989 h_990 h_991 h_992 h_993 h_994 h_995 h_996 h_997 h_998 h_999 h_1000 h_1002 h_1015 h_1017 h_1049 h_1050 h_1051 h_1052 h_1013 h_1047; omega) | omega) (by first | (clear ha2 hq0 hq1 hq2 hq3 hq4 hq8 h_1 h_2 h_3 h_4 h_5 h_6 h_7 h_8 h_9 h_10 h_11 h_46 h_65 h_66 h_70 h_75 h_76 h_81 h_977 h_983 h_984 h_986 h_987 h_988 h_989 h_990 h_991 h_992 h_993 h_994 h_995 h_996 h_997 h_998 h_999 h_1000 h_1002 h_1015 h_1017 h_1048 h_1049 h_1050 h_1051 h_1052 h_1053 hq6 hq7 h_12 h_21 h_37 h_1001 h_1013 h_1046 h_1047; omega) | omega) ((hid kn_1054)) ((hid kn_1055)) (rfl) (rfl) (rfl) ((hid kn_1060)) ((hid kn_1064)) ((hid kn_1065)) (fun j => ((hF_73 2 j (fun q => q.elim (fun h => absurd h.1 (nn rfl)) (fun q => q.elim (fun h => absurd h.1 (nn rfl)) (fun h => absurd h.1 (nn rfl))))).trans ((hF_64 2 j (fun q => q.elim (fun h => absurd h.1 (nn rfl)) (fun q => q.elim (fun h => absurd h.1 (nn rfl)) (fun h => absurd h.1 (nn rfl))))).trans ((hF_36 2 j (fun h => absurd h.1 (nn rfl))).trans ((hF_26 2 j (fun h => absurd h.1 (nn rfl))).trans (hF_20 2 j (fun h => absurd h.1 (nn rfl))))))).trans (hF j)) (fun j => ((hF_1043 43 j (fun q => q.elim (fun h => absurd h.1 (nn rfl)) (fun q => q.elim (fun h => absurd h.1 (nn rfl)) (fun h => absurd h.1 (nn rfl))))).trans ((up_c (nn rfl)).trans ((up_c (nn rfl)).trans ((hF_1020 43 j (fun h => absurd h.1 (nn rfl))).trans ((hF_1010 43 j (fun h => absurd h.1 (nn rfl))).trans (hF_1005 43 j (fun h => absurd h.1 (nn rfl)))))))).trans (hH j)) hU hR_1045 (ce_le hA_1066 (by omega)) hG_80 (fun c_1067 hI_1068 hF_1069 hR_1071 h_1072 h_1073 hA_1074 => ?_))
            refine bk_inl ?_
            have h_1075 := ir_41_29 hI_1068
            have h_1076 := ir_p7_5 hI_78 hA
            have h_1077 := ir_1_2 hI_78
            have h_1078 := ir_41_7 hI_1068
            refine q_aload_n rfl rfl ?_
            refine v_bip rfl (by decide) ?_
            have h_1079 := ir_41_5 hI_1068
            have h_1080 := ir_41_4 hI_1068
            have h_1081 := ir_41_6 hI_1068
            have h_1082 := rt_bad hR_1071 (by omega)
            have hrb_hR_1071 := rt_bad hR_1071 (by omega)
            refine v_cv rfl rfl rfl rfl (by decide) ⟨⟨rfl, rfl⟩, by decide, rfl⟩ (Nat.le_of_ble_eq_true rfl) (Nat.le_of_ble_eq_true rfl) ?_
            refine q_aload_n rfl rfl ?_
            refine v_cv rfl rfl rfl rfl (by decide) ⟨⟨rfl, rfl⟩, by decide, rfl⟩ (Nat.le_of_ble_eq_true rfl) (Nat.le_of_ble_eq_true rfl) ?_
            refine q_aload_n rfl rfl ?_
            refine v_gi (z := 5) (v := c_77 1 5) rfl rfl rfl (by decide) rfl rfl hrb_hR_1071.2.1 ?_
            refine q_iconst rfl ?_
            refine v_ic_ne_t (t := 12) rfl (by decide) ⟨by first | (clear ha2 hq0 hq1 hq2 hq3 hq4 hq5 hq8 h_1 h_2 h_3 h_4 h_5 h_6 h_7 h_8 h_9 h_10 h_11 h_46 h_65 h_66 h_70 h_75 h_76 h_81 h_977 h_983 h_984 h_986 h_987 h_988 h_989 h_990 h_991 h_992 h_993 h_994 h_995 h_996 h_997 h_998 h_999 h_1000 h_1002 h_1015 h_1017 h_1048 h_1049 h_1050 h_1051 h_1052 h_1053 h_1075 h_1076 h_1077 h_1078 h_1073 h_1079 h_1080 h_1081 hq6 hq7 h_12 h_21 h_37 h_1001 h_1013 h_1046 h_1047 h_1072; omega) | omega, ⟨(Int.le_trans (by decide) h_977.1), (Int.le_trans h_977.2 (by decide))⟩, by decide, by decide⟩ ?_
            refine q_iconst rfl ?_
            refine v_zret rfl rfl (by decide) ?_
            refine bk_inl ?_
            refine v_if_eq_t (t := 24) rfl (by decide) (by decide) ?_
            refine q_aload_n rfl rfl ?_
            refine v_cv rfl rfl rfl rfl (by decide) ⟨⟨rfl, rfl⟩, by decide, rfl⟩ (Nat.le_of_ble_eq_true rfl) (Nat.le_of_ble_eq_true rfl) ?_
            refine q_aload_n rfl rfl ?_
            refine v_gi (z := 5) (v := c_77 1 5) rfl rfl rfl (by decide) rfl rfl hrb_hR_1071.2.1 ?_
            refine q_iconst rfl ?_
            refine v_ic_ne_t (t := 12) rfl (by decide) ⟨by first | (clear ha2 hq0 hq1 hq2 hq3 hq4 hq5 hq8 h_1 h_2 h_3 h_4 h_5 h_6 h_7 h_8 h_9 h_10 h_11 h_46 h_65 h_66 h_70 h_75 h_76 h_81 h_977 h_983 h_984 h_986 h_987 h_988 h_989 h_990 h_991 h_992 h_993 h_994 h_995 h_996 h_997 h_998 h_999 h_1000 h_1002 h_1015 h_1017 h_1048 h_1049 h_1050 h_1051 h_1052 h_1053 h_1075 h_1076 h_1077 h_1078 h_1073 h_1079 h_1080 h_1081 hq6 hq7 h_12 h_21 h_37 h_1001 h_1013 h_1046 h_1047 h_1072; omega) | omega, ⟨(Int.le_trans (by decide) h_977.1), (Int.le_trans h_977.2 (by decide))⟩, by decide, by decide⟩ ?_
            refine q_iconst rfl ?_
            refine v_zret rfl rfl (by decide) ?_
            refine bk_inl ?_
            refine v_if_eq_t (t := 41) rfl (by decide) (by decide) ?_
            refine q_vret rfl rfl ?_
            refine bk_inl ?_
            refine q_aload_n rfl rfl ?_
            have h_1083 : ¬ c_1067 41 5 = -1 := by rw [show c_1067 41 5 = c_77 1 5 from hrb_hR_1071.2.1]; omega
            refine v_cv rfl rfl rfl rfl (by decide) ⟨⟨rfl, rfl⟩, by decide, rfl⟩ (Nat.le_of_ble_eq_true rfl) (Nat.le_of_ble_eq_true rfl) (n_174 hI_1068 (by omega) ?_)
            refine bk_inl ?_
            refine q_aload_n rfl rfl ?_
            refine v_bip rfl (by decide) ?_
            refine v_cv rfl rfl rfl rfl (by decide) ⟨⟨rfl, rfl⟩, by decide, rfl⟩ (Nat.le_of_ble_eq_true rfl) (Nat.le_of_ble_eq_true rfl) ?_
            refine q_aload_n rfl rfl ?_
            refine v_cv rfl rfl rfl rfl (by decide) ⟨⟨rfl, rfl⟩, by decide, rfl⟩ (Nat.le_of_ble_eq_true rfl) (Nat.le_of_ble_eq_true rfl) ?_
            refine q_aload_n rfl rfl ?_
            refine v_gi (z := 5) (v := c_77 1 5) rfl rfl rfl (by decide) rfl rfl hrb_hR_1071.2.1 ?_
            refine q_iconst rfl ?_
            refine v_ic_ne_t (t := 12) rfl (by decide) ⟨by first | (clear ha2 hq0 hq1 hq2 hq3 hq4 hq5 hq8 h_1 h_2 h_3 h_4 h_5 h_6 h_7 h_8 h_9 h_10 h_11 h_46 h_65 h_66 h_70 h_75 h_76 h_81 h_977 h_983 h_984 h_986 h_987 h_988 h_989 h_990 h_991 h_992 h_993 h_994 h_995 h_996 h_997 h_998 h_999 h_1000 h_1002 h_1015 h_1017 h_1048 h_1049 h_1050 h_1051 h_1052 h_1053 h_1075 h_1076 h_1077 h_1078 h_1073 h_1079 h_1080 h_1081 hq6 hq7 h_12 h_21 h_37 h_1001 h_1013 h_1046 h_1047 h_1072; omega) | omega, ⟨(Int.le_trans (by decide) h_977.1), (Int.le_trans h_977.2 (by decide))⟩, by decide, by decide⟩ ?_
            refine q_iconst rfl ?_
            refine v_zret rfl rfl (by decide) ?_
            refine bk_inl ?_
            refine v_if_eq_t (t := 24) rfl (by decide) (by decide) ?_
            refine q_aload_n rfl rfl ?_
            refine v_cv rfl rfl rfl rfl (by decide) ⟨⟨rfl, rfl⟩, by decide, rfl⟩ (Nat.le_of_ble_eq_true rfl) (Nat.le_of_ble_eq_true rfl) ?_
            refine q_aload_n rfl rfl ?_
            refine v_gi (z := 5) (v := c_77 1 5) rfl rfl rfl (by decide) rfl rfl hrb_hR_1071.2.1 ?_
            refine q_iconst rfl ?_
            refine v_ic_ne_t (t := 12) rfl (by decide) ⟨by first | (clear ha2 hq0 hq1 hq2 hq3 hq4 hq5 hq8 h_1 h_2 h_3 h_4 h_5 h_6 h_7 h_8 h_9 h_10 h_11 h_46 h_65 h_66 h_70 h_75 h_76 h_81 h_977 h_983 h_984 h_986 h_987 h_988 h_989 h_990 h_991 h_992 h_993 h_994 h_995 h_996 h_997 h_998 h_999 h_1000 h_1002 h_1015 h_1017 h_1048 h_1049 h_1050 h_1051 h_1052 h_1053 h_1075 h_1076 h_1077 h_1078 h_1073 h_1079 h_1080 h_1081 hq6 hq7 h_12 h_21 h_37 h_1001 h_1013 h_1046 h_1047 h_1072; omega) | omega, ⟨(Int.le_trans (by decide) h_977.1), (Int.le_trans h_977.2 (by decide))⟩, by decide, by decide⟩ ?_
            refine q_iconst rfl ?_
            refine v_zret rfl rfl (by decide) ?_
            refine bk_inl ?_
            refine v_if_eq_t (t := 41) rfl (by decide) (by decide) ?_
            refine q_vret rfl rfl ?_
            refine bk_inl ?_
            refine q_aload_n rfl rfl ?_
            refine q_dup rfl rfl ?_
            refine v_gi (z := 7) (v := c_1067 41 7) rfl rfl rfl (by decide) rfl rfl rfl ?_
            refine q_iconst rfl ?_
            refine v_isub (v := c_1067 41 7 - 1) rfl rfl ?_
            refine v_pi (z := 7) rfl rfl rfl (by decide) rfl rfl rfl (by decide) ?_
            refine q_aload_n rfl rfl ?_
            refine q_iload_n rfl rfl ?_
            refine q_iconst rfl ?_
            refine v_cv rfl rfl rfl rfl (by decide) ⟨⟨rfl, rfl⟩, by decide, rfl⟩ (Nat.le_of_ble_eq_true rfl) (Nat.le_of_ble_eq_true rfl) ?_
            refine q_aload_n rfl rfl ?_
            refine v_cv rfl rfl rfl rfl (by decide) ⟨⟨rfl, rfl⟩, by decide, rfl⟩ (Nat.le_of_ble_eq_true rfl) (Nat.le_of_ble_eq_true rfl) ?_
            refine q_aload_n rfl rfl ?_
            refine v_gi (z := 5) (v := c_77 1 5) rfl rfl rfl (by decide) rfl rfl (((up_n (by decide))).trans (hrb_hR_1071.2.1)) ?_
            refine q_iconst rfl ?_
            refine v_ic_ne_t (t := 12) rfl (by decide) ⟨by first | (clear ha2 hq0 hq1 hq2 hq3 hq4 hq5 hq8 h_1 h_2 h_3 h_4 h_5 h_6 h_7 h_8 h_9 h_10 h_11 h_46 h_65 h_66 h_70 h_75 h_76 h_81 h_977 h_983 h_984 h_986 h_987 h_988 h_989 h_990 h_991 h_992 h_993 h_994 h_995 h_996 h_997 h_998 h_999 h_1000 h_1002 h_1015 h_1017 h_1048 h_1049 h_1050 h_1051 h_1052 h_1053 h_1075 h_1076 h_1077 h_1078 h_1073 h_1079 h_1080 h_1081 hq6 hq7 h_12 h_21 h_37 h_1001 h_1013 h_1046 h_1047 h_1072; omega) | omega, ⟨(Int.le_trans (by decide) h_977.1), (Int.le_trans h_977.2 (by decide))⟩, by decide, by decide⟩ ?_
            refine q_iconst rfl ?_
            refine v_zret rfl rfl (by decide) ?_
            refine bk_inl ?_
            refine v_if_ne_f (t := 8) rfl (by decide) (by decide) ?_
            refine q_vret rfl rfl ?_
            refine bk_inl ?_
            refine q_vret rfl rfl ?_
            refine bk_inl ?_
            refine q_goto (t := 154) rfl (by decide) ?_
            refine q_vret rfl rfl ?_
            have hI_1084 := iw_41_7 (v := c_1067 41 7 - 1) hI_1068 ⟨by first | (clear hq0 hq1 hq2 hq3 hq4 hq5 hq8 h_1 h_2 h_3 h_4 h_5 h_6 h_7 h_8 h_9 h_10 h_11 h_46 h_65 h_66 h_70 h_75 h_76 h_81 h_977 h_983 h_984 h_986 h_987 h_988 h_989 h_990 h_991 h_992 h_993 h_994 h_995 h_996 h_997 h_998 h_999 h_1000 h_1002 h_1015 h_1017 h_1048 h_1049 h_1050 h_1051 h_1052 h_1053 h_1075 h_1076 h_1077 h_1078 h_1079 h_1080 h_1081 h_1082 hq6 hq7 h_12 h_21 h_37 h_1001 h_1013 h_1046 h_1047 h_1072; omega) | omega, by first | exact rgm_h h_1078.2 (by decide) | omega⟩
            have h_1085 : (up c_1067 41 7 (c_1067 41 7 - 1)) 41 5 = c_77 1 5 := (((up_n (by decide))).trans (hrb_hR_1071.2.1))
            have h_1086 : (up c_1067 41 7 (c_1067 41 7 - 1)) 41 4 = c_1067 41 4 := (up_n (by decide))
            have h_1087 : (up c_1067 41 7 (c_1067 41 7 - 1)) 41 6 = c_77 1 4 := (((up_n (by decide))).trans (hrb_hR_1071.2.2.2))
            have h_1088 : (up c_1067 41 7 (c_1067 41 7 - 1)) 41 29 = c_1067 41 29 := (up_n (by decide))
            have h_1089 : (up c_1067 41 7 (c_1067 41 7 - 1)) 41 7 = c_1067 41 7 - 1 := (up_e rfl)
            have h_1090 : (up c_1067 41 7 (c_1067 41 7 - 1)) 41 29 = c_1067 41 29 := (up_n (by decide))
            exact K (up c_1067 41 7 (c_1067 41 7 - 1))  hI_1084 (fun a j hm => (up_b (Decidable.or_iff_not_imp_left.mpr (fun h1 h2 => hm (Or.inr (Or.inr (Or.inr (Or.inl ⟨Decidable.not_not.mp h1, h2⟩))))))).trans ((hF_1069 a j (fun q => q.elim (fun h => hm (Or.inl h)) (fun q => q.elim (fun h => hm (Or.inr (Or.inl h))) (fun q => q.elim (fun h => hm (Or.inr (Or.inr (Or.inl h)))) (fun q => q.elim (fun h => hm (Or.inr (Or.inr (Or.inr (Or.inl h))))) (fun q => q.elim (fun h => hm (Or.inr (Or.inr (Or.inr (Or.inr (Or.inl h)))))) (fun q => q.elim (fun h => hm (Or.inr (Or.inr (Or.inr (Or.inr (Or.inr (Or.inl h))))))) (fun h => hm (Or.inr (Or.inr (Or.inr (Or.inr (Or.inr (Or.inr h)))))))))))))).trans ((hF_1043 a j (fun q => q.elim (fun h => hm (Or.inl h)) (fun q => q.elim (fun h => hm (Or.inr (Or.inl h))) (fun h => hm (Or.inr (Or.inr (Or.inl h))))))).trans ((up_b (Decidable.or_iff_not_imp_left.mpr (fun h1 h2 => hm (Or.inr (Or.inr (Or.inr (Or.inl ⟨Decidable.not_not.mp h1, h2⟩))))))).trans ((up_b (Decidable.or_iff_not_imp_left.mpr (fun h1 h2 => hm (Or.inl ⟨Decidable.not_not.mp h1, h2⟩)))).trans ((hF_1020 a j (fun h => hm (Or.inl h))).trans ((hF_1010 a j (fun h => hm (Or.inl h))).trans (hF_1005 a j (fun h => hm (Or.inl h)))))))))) (rt_i2 ⟨⟨by first | (clear ha2 hq0 hq1 hq2 hq3 hq4 hq5 hq8 h_1 h_2 h_3 h_4 h_5 h_6 h_7 h_8 h_9 h_10 h_11 h_46 h_65 h_66 h_70 h_75 h_76 h_81 h_977 h_983 h_984 h_986 h_988 h_989 h_990 h_991 h_992 h_993 h_994 h_995 h_996 h_997 h_998 h_999 h_1000 h_1002 h_1015 h_1017 h_1048 h_1049 h_1050 h_1051 h_1052 h_1053 h_1075 h_1076 h_1077 h_1078 h_1073 h_1079 h_1080 h_1081 hq6 hq7 h_12 h_21 h_37 h_1001 h_1013 h_1046 h_1047 h_1072; omega) | omega, by first | (clear ha2 hq0 hq1 hq2 hq3 hq4 hq5 hq8 h_1 h_2 h_3 h_4 h_5 h_6 h_7 h_8 h_9 h_10 h_11 h_46 h_65 h_66 h_70 h_75 h_76 h_81 h_977 h_983 h_984 h_987 h_988 h_989 h_990 h_991 h_992 h_993 h_994 h_995 h_996 h_997 h_998 h_999 h_1000 h_1002 h_1015 h_1017 h_1048 h_1049 h_1050 h_1051 h_1052 h_1053 h_1075 h_1076 h_1077 h_1078 h_1073 h_1079 h_1080 h_1081 h_1082 hq6 hq7 h_12 h_21 h_37 h_1001 h_1013 h_1046 h_1047 h_1072; omega) | omega⟩, by first | (clear ha2 hq0 hq1 hq2 hq3 hq4 hq5 hq8 h_1 h_2 h_3 h_4 h_5 h_6 h_7 h_8 h_9 h_10 h_11 h_46 h_65 h_66 h_70 h_75 h_76 h_81 h_977 h_983 h_984 h_986 h_987 h_988 h_989 h_990 h_991 h_993 h_994 h_995 h_996 h_997 h_998 h_999 h_1000 h_1002 h_1015 h_1017 h_1048 h_1049 h_1050 h_1051 h_1052 h_1053 h_1075 h_1076 h_1077 h_1078 h_1073 h_1079 h_1080 h_1081 h_1082 hq6 hq7 h_12 h_21 h_37 h_1001 h_1013 h_1046 h_1047 h_1072; omega) | omega, by first | (clear ha2 hq0 hq1 hq2 hq3 hq4 hq5 hq8 h_1 h_2 h_3 h_4 h_5 h_6 h_7 h_8 h_9 h_10 h_11 h_46 h_65 h_66 h_70 h_75 h_76 h_81 h_977 h_983 h_984 h_986 h_987 h_988 h_989 h_990 h_991 h_993 h_994 h_995 h_996 h_997 h_998 h_999 h_1000 h_1002 h_1015 h_1017 h_1048 h_1049 h_1050 h_1051 h_1052 h_1053 h_1075 h_1076 h_1077 h_1078 h_1073 h_1079 h_1080 h_1081 hq6 hq7 h_12 h_21 h_37 h_1001 h_1013 h_1046 h_1047 h_1072; omega) | omega, by first | (clear ha2 hq0 hq1 hq2 hq3 hq4 hq5 hq8 h_1 h_2 h_3 h_4 h_5 h_6 h_7 h_8 h_9 h_10 h_11 h_46 h_65 h_66 h_70 h_75 h_76 h_81 h_977 h_983 h_984 h_986 h_988 h_989 h_990 h_991 h_992 h_993 h_994 h_995 h_996 h_997 h_998 h_999 h_1000 h_1002 h_1015 h_1017 h_1048 h_1049 h_1050 h_1051 h_1052 h_1053 h_1075 h_1076 h_1077 h_1078 h_1073 h_1079 h_1080 h_1081 h_1082 hq6 hq7 h_12 h_21 h_37 h_1001 h_1013 h_1046 h_1047 h_1072; omega) | omega⟩) (Or.inr (Or.inl (by first | (clear ha2 hq0 hq1 hq2 hq3 hq4 hq5 hq8 h_1 h_2 h_3 h_4 h_5 h_6 h_7 h_8 h_9 h_10 h_11 h_46 h_65 h_66 h_70 h_75 h_76 h_81 h_977 h_983 h_984 h_986 h_988 h_989 h_990 h_991 h_992 h_993 h_994 h_995 h_996 h_997 h_998 h_999 h_1000 h_1002 h_1015 h_1017 h_1048 h_1049 h_1050 h_1051 h_1052 h_1053 h_1075 h_1076 h_1077 h_1078 h_1073 h_1079 h_1080 h_1081 hq6 hq7 h_12 h_21 h_37 h_1001 h_1013 h_1046 h_1047 h_1072; omega) | omega))) (by first | (clear ha2 hq0 hq1 hq2 hq3 hq4 hq5 hq8 h_1 h_2 h_3 h_4 h_5 h_6 h_7 h_8 h_9 h_10 h_11 h_46 h_65 h_66 h_70 h_75 h_76 h_81 h_977 h_983 h_984 h_986 h_987 h_988 h_989 h_990 h_991 h_992 h_993 h_994 h_995 h_996 h_997 h_998 h_999 h_1000 h_1002 h_1015 h_1017 h_1048 h_1049 h_1050 h_1051 h_1052 h_1053 h_1075 h_1076 h_1077 h_1078 h_1079 h_1080 h_1081 h_1082 hq6 hq7 h_12 h_21 h_37 h_1001 h_1013 h_1046 h_1047 h_1072; omega) | omega) (fun hz => absurd hz (by omega))
          · refine v_ic_ge_f (t := 32) rfl (by decide) ⟨(Int.le_trans (by decide) h_983.1), (Int.not_le.mp h_984), by decide⟩ ?_
            refine q_aload_n rfl rfl ?_
            refine v_gr (t := (A + 9)) rfl rfl (ck_p7 hA) (a68 hA rfl) rfl ?_
            refine q_aload_n rfl rfl ?_
            refine v_gi (z := 5) (v := c_978 (A + 7) 5) rfl rfl (ck_p7 hA) (a68 hA rfl) rfl rfl rfl ?_
            refine q_iload_n rfl rfl ?_
            refine v_is rfl (ck_p9 hA) (a68 hA rfl) (by decide) (by omega) ?_
            refine q_aload_n rfl rfl ?_
            refine q_dup rfl rfl ?_
            refine v_gi (z := 5) (v := c_978 (A + 7) 5) rfl rfl (ck_p7 hA) (a68 hA rfl) rfl rfl (up_c (pp rfl)) ?_
            refine q_iconst rfl ?_
            refine v_iadd (v := c_978 (A + 7) 5 + 1) rfl rfl ?_
            refine v_pi (z := 5) rfl rfl (ck_p7 hA) (a68 hA rfl) rfl rfl rfl (by decide) ?_
            refine q_vret rfl rfl ?_
            refine bk_inl ?_
            refine q_vret rfl rfl ?_
            have hI_1091 := iw_lg (j := c_978 (A + 7) 5) (v := (wd1_0 F (nx F e1 p0) (ln F e1 (nx F e1 p0))) + 1997) hI_979 (lgp (k := 9) hA (by decide)) ⟨by omega, by omega⟩ (by omega)
            have hI_1092 := iw_p7_5 (v := c_978 (A + 7) 5 + 1) hI_1091 hA ⟨by first | exact rgp_l h_983.1 (by decide) | omega, by first | (clear ha2 hq0 hq1 hq2 hq3 hq4 hq5 hq8 h_1 h_2 h_3 h_4 h_5 h_6 h_7 h_8 h_9 h_10 h_11 h_46 h_65 h_66 h_70 h_75 h_76 h_81 h_977 h_983 hq6 hq7 h_12 h_21 h_37; omega) | omega⟩
            intro hE_1093
            have hW : Wd P Q P P (up (up c_978 (A + 9) (c_978 (A + 7) 5) ((wd1_0 F (nx F e1 p0) (ln F e1 (nx F e1 p0))) + 1997)) (A + 7) 5 (c_978 (A + 7) 5 + 1)) = Wd P Q P P m9 := (Prod.mk.inj (Prod.mk.inj hE_1093).2).1
            have h_1094 := ir_1_4 hJ9
            have h_1095 : m9 1 4 = c_77 1 4 := wd_fv (z := 4) 4 rfl hW rfl rfl rfl rfl (by decide) ((up_c (pn hA rfl rfl)).trans ((up_c (pn hA rfl rfl)).trans (hz_981))) ⟨(Int.le_trans (by decide) h_81.1), (Int.le_trans h_81.2 (by decide))⟩ ⟨(Int.le_trans (by decide) h_1094.1), (Int.le_trans h_1094.2 (by decide))⟩
            have h_1096 := ir_1_2 hI_979
            have h_1097 := ir_1_2 hJ9
            have h_1098 : m9 1 2 = c_978 1 2 := wd_fv (z := 2) 2 rfl hW rfl rfl rfl rfl (by decide) ((up_c (pn hA rfl rfl)).trans (up_c (pn hA rfl rfl))) ⟨(Int.le_trans (by decide) h_1096.1), (Int.le_trans h_1096.2 (by decide))⟩ ⟨(Int.le_trans (by decide) h_1097.1), (Int.le_trans h_1097.2 (by decide))⟩
            have h_1099 := ir_1_5 hJ9
            have h_1100 : m9 1 5 = c_77 1 5 := wd_fv (z := 5) 5 rfl hW rfl rfl rfl rfl (by decide) ((up_c (pn hA rfl rfl)).trans ((up_c (pn hA rfl rfl)).trans (hz_982))) ⟨(Int.le_trans (by decide) h_977.1), (Int.le_trans h_977.2 (by decide))⟩ ⟨(Int.le_trans (by decide) h_1099.1), (Int.le_trans h_1099.2 (by decide))⟩
            have h_1101 := ir_p7_5 hJ9 hA
            have h_1102 : m9 (A + 7) 5 = c_978 (A + 7) 5 + 1 := wd_fv (z := 5) 5 rfl hW (ck_p7 hA) (ck_p7 hA) rfl rfl (by omega) (up_e rfl) ⟨by first | exact rgp_l h_983.1 (by decide) | omega, by first | exact rgp_h h_983.2 (by decide) | omega⟩ ⟨(Int.le_trans (by decide) h_1101.1), (Int.le_trans h_1101.2 (by decide))⟩
            refine q_aload_n rfl rfl ?_
            refine v_cv rfl rfl rfl rfl (by decide) ⟨⟨rfl, rfl⟩, by decide, rfl⟩ (Nat.le_of_ble_eq_true rfl) (Nat.le_of_ble_eq_true rfl) ?_
            refine q_aload_n rfl rfl ?_
            have h_1103 := ir_41_5 hI
            have h_1104 := ir_41_4 hI
            have h_1105 := ir_41_6 hI
            have h_1106 := rt_ok hRt (by omega)
            have hro_hRt := rt_ok hRt (by omega)
            refine v_gi (z := 5) (v := (-1)) rfl rfl rfl (by decide) rfl rfl hro_hRt.2.1 ?_
            refine q_iconst rfl ?_
            refine v_ic_ne_f (t := 12) rfl (by decide) (by decide) ?_
            refine q_iconst rfl ?_
            refine q_goto (t := 13) rfl (by decide) ?_
            refine v_zret rfl rfl (by decide) ?_
            refine bk_inl ?_
            refine v_if_ne_t (t := 8) rfl (by decide) (by decide) ?_
            refine q_aload_n rfl rfl ?_
            have h_1107 : -2147483648 ≤ (H (nx F e1 p0)) ∧ (H (nx F e1 p0)) ≤ 2147483647 := by rw [← hH (nx F e1 p0)]; exact ir_43 hI (nx F e1 p0)
            have h_1108 := hU (nx F e1 p0) (by omega) (by omega)
            have h_1109 := hb_or (b := H) (e := e1) (r := (nx F e1 p0))
            have h_1110 := hb_bd (b := H) (e := e1) (r := (nx F e1 p0)) (lo := -2147483648) (hi := 2147483647) h_1107 (by decide)
            refine v_cv rfl rfl rfl rfl (by decide) ⟨⟨rfl, rfl⟩, by decide, rfl⟩ (Nat.le_of_ble_eq_true rfl) (Nat.le_of_ble_eq_true rfl) (f_154 (e1 := e1) (a9 := p0) (B := H) (r8 := (nx F e1 p0)) (r := (hb H e1 (nx F e1 p0))) hI ((hr_e1)) (((hro_hRt.2.2.1).trans ((hg_p0)))) (fun j => hH j) ((nx_tr hU (by first | (clear ha2 hq0 hq1 hq2 hq3 hq4 hq5 hq8 h_1 h_2 h_3 h_4 h_6 h_7 h_8 h_9 h_10 h_11 h_46 h_65 h_66 h_70 h_75 h_76 h_81 h_977 h_983 h_1094 h_1095 h_1096 h_1097 h_1098 h_1099 h_1100 h_1101 h_1102 h_1103 h_1104 h_1105 h_1106 hq6 hq7 h_12 h_21 h_37; omega) | omega) (by first | (clear ha2 hq0 hq1 hq2 hq3 hq4 hq8 h_1 h_2 h_3 h_4 h_5 h_6 h_7 h_8 h_9 h_10 h_11 h_46 h_65 h_66 h_70 h_75 h_76 h_81 h_977 h_983 h_1094 h_1095 h_1096 h_1097 h_1098 h_1099 h_1100 h_1101 h_1102 h_1103 h_1104 h_1105 h_1106 hq6 hq7 h_12 h_21 h_37; omega) | omega)).trans (rfl)) rfl (fun c_1111 hI_1112 hF_1113 h_1114 => ?_))
            refine bk_inl ?_
            refine v_bip rfl (by decide) ?_
            refine v_ic_ne_t (t := 45) rfl (by decide) ⟨by first | (clear ha2 hq0 hq1 hq2 hq3 hq8 h_3 h_4 h_5 h_6 h_7 h_8 h_9 h_11 h_65 h_66 h_70 h_75 h_76 h_81 h_977 h_983 h_1094 h_1095 h_1096 h_1097 h_1098 h_1099 h_1100 h_1101 h_1102 h_1103 h_1104 h_1105 h_1106; omega) | omega, ⟨h_1110.1, h_1110.2⟩, by decide, by decide⟩ ?_
            refine q_aload_n rfl rfl ?_
            have kn_1115 : Hid (c_1111 41 3 = e1) := (hF_1113 41 3 (fun h => absurd h.2 (ni rfl))).trans (hr_e1)
            refine v_cv rfl rfl rfl rfl (by decide) ⟨⟨rfl, rfl⟩, by decide, rfl⟩ (Nat.le_of_ble_eq_true rfl) (Nat.le_of_ble_eq_true rfl) (f_154 (e1 := e1) (a9 := (nx F e1 p0)) (B := H) (r8 := (nx F e1 p0)) (r := (hb H e1 (nx F e1 p0))) hI_1112 ((hid kn_1115)) ((h_1114)) (fun j => (hF_1113 43 j (fun h => absurd h.1 (nn rfl))).trans (hH j)) ((nx_tr hU (by first | (clear ha2 hq0 hq1 hq2 hq3 hq4 hq5 hq8 h_1 h_2 h_3 h_4 h_6 h_7 h_8 h_9 h_11 h_46 h_65 h_66 h_70 h_75 h_76 h_81 h_977 h_983 h_1094 h_1095 h_1096 h_1097 h_1098 h_1099 h_1100 h_1101 h_1102 h_1103 h_1104 h_1105 h_1106 h_1107 h_1108 h_1110 hq6 hq7 h_12 h_21 h_37 h_1109; omega) | omega) (by first | (clear ha2 hq0 hq1 hq2 hq3 hq4 hq8 h_1 h_2 h_3 h_4 h_5 h_6 h_7 h_8 h_9 h_10 h_11 h_46 h_65 h_66 h_70 h_75 h_76 h_81 h_977 h_983 h_1094 h_1095 h_1096 h_1097 h_1098 h_1099 h_1100 h_1101 h_1102 h_1103 h_1104 h_1105 h_1106 h_1107 h_1108 h_1110 hq6 hq7 h_12 h_21 h_37 h_1109; omega) | omega)).trans ((nx_z (by omega)))) rfl (fun c_1116 hI_1117 hF_1118 h_1119 => ?_))
            refine bk_inl ?_
            refine q_call rfl rfl rfl rfl (f_156 (a0 := (hb H e1 (nx F e1 p0))) hI_1117 (show (-2147483648) ≤ (hb H e1 (nx F e1 p0)) ∧ (hb H e1 (nx F e1 p0)) ≤ 2147483647 from h_1110) (fun y_1120 hy_1120 h_1121 => ?_))
            refine bk_inl ?_
            refine v_if_eq_t (t := 71) rfl (by decide) (by first | (clear ha2 hq0 hq1 hq2 hq3 hq8 h_3 h_4 h_5 h_6 h_7 h_8 h_9 h_11 h_65 h_66 h_70 h_75 h_76 h_81 h_977 h_983 h_1094 h_1095 h_1096 h_1097 h_1098 h_1099 h_1100 h_1101 h_1102 h_1103 h_1104 h_1105 h_1106; omega) | omega) ?_
            refine q_aload_n rfl rfl ?_
            have kn_1122 : Hid (c_1116 41 3 = e1) := (hF_1118 41 3 (fun h => absurd h.2 (ni rfl))).trans (hid kn_1115)
            have h_1123 := wv_bd (b := F) (r := (nx F e1 p0)) (l := (ln F e1 (nx F e1 p0))) (fun j h1 h2 => ⟨(ln_in (e := e1) (a := (nx F e1 p0)) h1 h2).1, (ln_in (e := e1) (a := (nx F e1 p0)) h1 h2).2.1⟩)
            have h_1124 := wr1_8 (b := F) (r := (nx F e1 p0)) (l := (ln F e1 (nx F e1 p0))) (by omega) (fun j h1 h2 => ⟨(ln_in (e := e1) (a := (nx F e1 p0)) h1 h2).1, (ln_in (e := e1) (a := (nx F e1 p0)) h1 h2).2.1⟩) (by omega)
            have h_1125 : (wv F (nx F e1 p0) (ln F e1 (nx F e1 p0))) = 12748404 → (ln F e1 (nx F e1 p0)) - (nx F e1 p0) = 5 := wl_least (by omega) (fun j h1 h2 => ⟨(ln_in (e := e1) (a := (nx F e1 p0)) h1 h2).1, (ln_in (e := e1) (a := (nx F e1 p0)) h1 h2).2.1⟩)
            refine v_cv rfl rfl rfl rfl (by decide) ⟨⟨rfl, rfl⟩, by decide, rfl⟩ (Nat.le_of_ble_eq_true rfl) (Nat.le_of_ble_eq_true rfl) (f_157 (e1 := e1) (a9 := (nx F e1 p0)) (B := H) (r8 := (nx F e1 p0)) (L8 := (ln F e1 (nx F e1 p0))) (W8 := (wv F (nx F e1 p0) (ln F e1 (nx F e1 p0)))) hI_1117 ((hid kn_1122)) ((h_1119)) (fun j => ((hF_1118 43 j (fun h => absurd h.1 (nn rfl))).trans (hF_1113 43 j (fun h => absurd h.1 (nn rfl)))).trans (hH j)) ((nx_tr hU (by first | (clear ha2 hq0 hq1 hq2 hq3 hq4 hq5 hq8 h_1 h_2 h_3 h_4 h_6 h_7 h_8 h_9 h_11 h_46 h_65 h_66 h_70 h_75 h_76 h_81 h_977 h_983 h_1094 h_1095 h_1096 h_1097 h_1098 h_1099 h_1100 h_1101 h_1102 h_1103 h_1104 h_1105 h_1106 h_1107 h_1108 h_1110 hq6 hq7 h_12 h_21 h_37 h_1109 h_1121; omega) | omega) (by first | (clear ha2 hq0 hq1 hq2 hq3 hq4 hq8 h_1 h_2 h_3 h_4 h_5 h_6 h_7 h_8 h_9 h_10 h_11 h_46 h_65 h_66 h_70 h_75 h_76 h_81 h_977 h_983 h_1094 h_1095 h_1096 h_1097 h_1098 h_1099 h_1100 h_1101 h_1102 h_1103 h_1104 h_1105 h_1106 h_1107 h_1108 h_1110 hq6 hq7 h_12 h_21 h_37 h_1109 h_1121; omega) | omega)).trans ((nx_z (by omega)))) ((ln_tr hU (by first | (clear ha2 hq0 hq1 hq2 hq3 hq4 hq5 hq8 h_1 h_2 h_3 h_4 h_6 h_7 h_8 h_9 h_11 h_46 h_65 h_66 h_70 h_75 h_76 h_81 h_977 h_983 h_1094 h_1095 h_1096 h_1097 h_1098 h_1099 h_1100 h_1101 h_1102 h_1103 h_1104 h_1105 h_1106 h_1107 h_1108 h_1110 hq6 hq7 h_12 h_21 h_37 h_1109 h_1121; omega) | omega) (by first | (clear ha2 hq0 hq1 hq2 hq3 hq4 hq8 h_1 h_2 h_3 h_4 h_5 h_6 h_7 h_8 h_9 h_10 h_11 h_46 h_65 h_66 h_70 h_75 h_76 h_81 h_977 h_983 h_1094 h_1095 h_1096 h_1097 h_1098 h_1099 h_1100 h_1101 h_1102 h_1103 h_1104 h_1105 h_1106 h_1107 h_1108 h_1110 hq6 hq7 h_12 h_21 h_37 h_1109 h_1121; omega) | omega)).trans (rfl)) ((wv_tr hU (by first | (clear ha2 hq0 hq1 hq2 hq3 hq4 hq5 hq8 h_1 h_2 h_3 h_4 h_6 h_7 h_8 h_9 h_11 h_46 h_65 h_66 h_70 h_75 h_76 h_81 h_977 h_983 h_1094 h_1095 h_1096 h_1097 h_1098 h_1099 h_1100 h_1101 h_1102 h_1103 h_1104 h_1105 h_1106 h_1107 h_1108 h_1110 h_1123 h_1125 hq6 hq7 h_12 h_21 h_37 h_1109 h_1121; omega) | omega) (by first | (clear ha2 hq0 hq1 hq2 hq3 hq4 hq8 h_1 h_2 h_3 h_4 h_5 h_6 h_7 h_8 h_9 h_10 h_11 h_65 h_66 h_70 h_75 h_76 h_81 h_977 h_983 h_1094 h_1095 h_1096 h_1097 h_1098 h_1099 h_1100 h_1101 h_1102 h_1103 h_1104 h_1105 h_1106 h_1107 h_1108 h_1110 h_1123 h_1125 hq6 hq7 h_12 h_21 h_37 h_1109 h_1121; omega) | omega) (fun j h1 h2 => ⟨(ln_in (e := e1) (a := (nx F e1 p0)) h1 h2).1, (ln_in (e := e1) (a := (nx F e1 p0)) h1 h2).2.1⟩)).trans (rfl)) (fun c_1126 hI_1127 hF_1128 hz_1129 => ?_))
            refine bk_inl ?_
            refine q_ldc_w_s rfl rfl rfl (by decide) ?_
            refine q_call rfl rfl rfl rfl (s_158_20 ?_)
            refine bk_inl ?_
            refine v_ic_ne_f (t := 94) rfl (by decide) (by first | (clear ha2 hq0 hq1 hq2 hq3 hq4 hq5 hq8 h_1 h_2 h_3 h_4 h_5 h_6 h_7 h_8 h_9 h_10 h_11 h_46 h_65 h_66 h_70 h_75 h_76 h_81 h_977 h_983 h_1094 h_1095 h_1096 h_1097 h_1098 h_1099 h_1100 h_1101 h_1102 h_1103 h_1104 h_1105 h_1106 h_1107 h_1108 h_1110 h_1123 hq6 hq7 h_12 h_21 h_37 h_1109 h_1121; omega) | omega) ?_
            refine q_aload_n rfl rfl ?_
            refine q_iconst rfl ?_
            refine v_bip rfl (by decide) ?_
            refine v_cv rfl rfl rfl rfl (by decide) ⟨⟨rfl, rfl⟩, by decide, rfl⟩ (Nat.le_of_ble_eq_true rfl) (Nat.le_of_ble_eq_true rfl) ?_
            refine q_aload_n rfl rfl ?_
            refine q_iload_n rfl rfl ?_
            refine v_cv rfl rfl rfl rfl (by decide) ⟨⟨rfl, rfl⟩, by decide, rfl⟩ (Nat.le_of_ble_eq_true rfl) (Nat.le_of_ble_eq_true rfl) ?_
            refine q_aload_n rfl rfl ?_
            refine v_cv rfl rfl rfl rfl (by decide) ⟨⟨rfl, rfl⟩, by decide, rfl⟩ (Nat.le_of_ble_eq_true rfl) (Nat.le_of_ble_eq_true rfl) ?_
            refine q_aload_n rfl rfl ?_
            have kn_1130 : Hid (c_1111 41 5 = (-1)) := (hF_1113 41 5 (fun h => absurd h.2 (ni rfl))).trans hro_hRt.2.1
            have kn_1131 : Hid (c_1116 41 5 = (-1)) := (hF_1118 41 5 (fun h => absurd h.2 (ni rfl))).trans (hid kn_1130)
            have kn_1132 : Hid (c_1126 41 5 = (-1)) := (hF_1128 41 5 (fun h => absurd h.2 (ni rfl))).trans (hid kn_1131)
            refine v_gi (z := 5) (v := (-1)) rfl rfl rfl (by decide) rfl rfl (hid kn_1132) ?_
            refine q_iconst rfl ?_
            refine v_ic_ne_f (t := 12) rfl (by decide) (by decide) ?_
            refine q_iconst rfl ?_
            refine q_goto (t := 13) rfl (by decide) ?_
            refine v_zret rfl rfl (by decide) ?_
            refine bk_inl ?_
            refine v_if_eq_f (t := 25) rfl (by decide) (by decide) ?_
            refine q_aload_n rfl rfl ?_
            have kn_1133 : Hid (c_1111 41 7 = o0) := (hF_1113 41 7 (fun h => absurd h.2 (ni rfl))).trans (hr_o0)
            have kn_1134 : Hid (c_1116 41 7 = o0) := (hF_1118 41 7 (fun h => absurd h.2 (ni rfl))).trans (hid kn_1133)
            have kn_1135 : Hid (c_1126 41 7 = o0) := (hF_1128 41 7 (fun h => absurd h.2 (ni rfl))).trans (hid kn_1134)
            refine v_gi (z := 7) (v := o0) rfl rfl rfl (by decide) rfl rfl (hid kn_1135) ?_
            refine v_bip rfl (by decide) ?_
            refine v_ic_ne_t (t := 25) rfl (by decide) ⟨by first | (clear ha2 hq0 hq1 hq3 hq4 hq5 hq8 h_1 h_2 h_3 h_4 h_5 h_6 h_7 h_8 h_9 h_10 h_11 h_46 h_65 h_66 h_75 h_76 h_81 h_977 h_983 h_1094 h_1095 h_1096 h_1097 h_1098 h_1099 h_1100 h_1101 h_1102 h_1103 h_1104 h_1105 h_1106 h_1107 h_1108 h_1110 h_1123 h_1125 hq6 hq7 h_12 h_21 h_37 h_1109 h_1121; omega) | omega, ⟨(Int.le_trans (by decide) (rg_eq hr_o0 h_8).1), (Int.le_trans (rg_eq hr_o0 h_8).2 (by decide))⟩, by decide, by decide⟩ ?_
            refine q_aload_n rfl rfl ?_
            refine v_cv rfl rfl rfl rfl (by decide) ⟨⟨rfl, rfl⟩, by decide, rfl⟩ (Nat.le_of_ble_eq_true rfl) (Nat.le_of_ble_eq_true rfl) ?_
            refine q_aload_n rfl rfl ?_
            refine v_gi (z := 5) (v := (-1)) rfl rfl rfl (by decide) rfl rfl (hid kn_1132) ?_
            refine q_iconst rfl ?_
            refine v_ic_ne_f (t := 12) rfl (by decide) (by decide) ?_
            refine q_iconst rfl ?_
            refine q_goto (t := 13) rfl (by decide) ?_
            refine v_zret rfl rfl (by decide) ?_
            refine bk_inl ?_
            refine v_if_eq_f (t := 42) rfl (by decide) (by decide) ?_
            refine q_aload_n rfl rfl ?_
            refine q_dup rfl rfl ?_
            refine v_gi (z := 4) (v := (nx F e1 p0)) rfl rfl rfl (by decide) rfl rfl (hz_1129) ?_
            refine q_iload_n rfl rfl ?_
            refine v_iadd (v := (nx F e1 p0) + 5) rfl rfl ?_
            refine v_pi (z := 4) rfl rfl rfl (by decide) rfl rfl rfl (by decide) ?_
            refine q_aload_n rfl rfl ?_
            refine q_dup rfl rfl ?_
            refine v_gi (z := 7) (v := o0) rfl rfl rfl (by decide) rfl rfl ((up_n (by decide)).trans (hid kn_1135)) ?_
            refine q_iconst rfl ?_
            refine v_iadd (v := o0 + 1) rfl rfl ?_
            refine v_pi (z := 7) rfl rfl rfl (by decide) rfl rfl rfl (by decide) ?_
            refine q_vret rfl rfl ?_
            refine bk_inl ?_
            refine q_aload_n rfl rfl ?_
            refine v_bip rfl (by decide) ?_
            have hI_1136 := iw_41_4 (v := (nx F e1 p0) + 5) hI_1127 ⟨by first | exact rgp_l (rg_be h_10 ((rg_eq hg_p0 h_5).1) ((rg_eq hg_e1 h_1).2)).1 (by decide) | omega, by first | exact rgp_h (rg_be h_10 ((rg_eq hg_p0 h_5).1) ((rg_eq hg_e1 h_1).2)).2 (by decide) | omega⟩
            have hI_1137 := iw_41_7 (v := o0 + 1) hI_1136 ⟨by first | exact rgp_l (rg_eq hr_o0 h_8).1 (by decide) | omega, by first | (clear ha2 hq0 hq1 hq3 hq4 hq5 hq8 h_1 h_2 h_3 h_4 h_5 h_6 h_7 h_8 h_9 h_10 h_11 h_46 h_65 h_66 h_75 h_76 h_81 h_977 h_983 h_1094 h_1095 h_1096 h_1097 h_1098 h_1099 h_1100 h_1101 h_1102 h_1103 h_1104 h_1105 h_1106 h_1107 h_1108 h_1110 h_1123 h_1125 hq6 hq7 h_12 h_21 h_37 h_1109 h_1121; omega) | omega⟩
            have kn_1138 : Hid (c_62 1 1 = e1) := (hF_64 1 1 (fun q => q.elim (fun h => absurd h.2 (ni rfl)) (fun q => q.elim (fun h => absurd h.2 (ni rfl)) (fun h => absurd h.2 (ni rfl))))).trans (hid kn_39)
            have kn_1139 : Hid (c_1126 41 3 = e1) := (hF_1128 41 3 (fun h => absurd h.2 (ni rfl))).trans (hid kn_1122)
            have h_1140 : c_62 1 4 = 0 := (hz_68)
            have h_1141 : c_62 1 2 = (ln F e1 (nx F e1 p0)) := (hz_67)
            have h_1142 : c_62 1 5 = g0 := (hz_69)
            have h_1143 : (up (up c_1126 41 4 ((nx F e1 p0) + 5)) 41 7 (o0 + 1)) 41 5 = (-1) := ((up_n (by decide)).trans ((up_n (by decide)).trans (hid kn_1132)))
            have h_1144 : (up (up c_1126 41 4 ((nx F e1 p0) + 5)) 41 7 (o0 + 1)) 41 4 = (nx F e1 p0) + 5 := ((up_n (by decide)).trans (up_e rfl))
            have kn_1145 : Hid (c_1111 41 6 = c 41 6) := hF_1113 41 6 (fun h => absurd h.2 (ni rfl))
            have kn_1146 : Hid (c_1116 41 6 = c 41 6) := (hF_1118 41 6 (fun h => absurd h.2 (ni rfl))).trans (hid kn_1145)
            have kn_1147 : Hid (c_1126 41 6 = c 41 6) := (hF_1128 41 6 (fun h => absurd h.2 (ni rfl))).trans (hid kn_1146)
            have h_1148 : (up (up c_1126 41 4 ((nx F e1 p0) + 5)) 41 7 (o0 + 1)) 41 6 = c 41 6 := ((up_n (by decide)).trans ((up_n (by decide)).trans (hid kn_1147)))
            refine v_cv rfl rfl rfl rfl (by decide) ⟨⟨rfl, rfl⟩, by decide, rfl⟩ (Nat.le_of_ble_eq_true rfl) (Nat.le_of_ble_eq_true rfl) (L_11_3 (m := c_62) (e1 := e1) (a9 := (ln F e1 (nx F e1 p0))) (f0 := 0) (F := F) (H := H) hI_1137 hI_63 hI_72 ((hid kn_1138)) (((up_n (by decide)).trans ((up_n (by decide)).trans (hid kn_1139)))) ((hz_67)) ((hz_68)) (fun j => ((hF_64 2 j (fun q => q.elim (fun h => absurd h.1 (nn rfl)) (fun q => q.elim (fun h => absurd h.1 (nn rfl)) (fun h => absurd h.1 (nn rfl))))).trans ((hF_36 2 j (fun h => absurd h.1 (nn rfl))).trans ((hF_26 2 j (fun h => absurd h.1 (nn rfl))).trans (hF_20 2 j (fun h => absurd h.1 (nn rfl)))))).trans (hF j)) (fun j => ((up_c (nn rfl)).trans ((up_c (nn rfl)).trans ((hF_1128 43 j (fun h => absurd h.1 (nn rfl))).trans ((hF_1118 43 j (fun h => absurd h.1 (nn rfl))).trans (hF_1113 43 j (fun h => absurd h.1 (nn rfl))))))).trans (hH j)) hU (rt_i1 ⟨by first | (clear ha2 hq0 hq1 hq2 hq3 hq4 hq5 hq8 h_1 h_2 h_3 h_4 h_5 h_6 h_7 h_8 h_9 h_10 h_11 h_46 h_65 h_66 h_70 h_75 h_76 h_81 h_977 h_983 h_1094 h_1095 h_1096 h_1097 h_1098 h_1099 h_1100 h_1101 h_1102 h_1103 h_1104 h_1105 h_1106 h_1107 h_1108 h_1110 h_1123 h_1125 hq6 hq7 h_12 h_21 h_37 h_1109 h_1121; omega) | omega, by first | (clear ha2 hq0 hq1 hq2 hq3 hq4 hq5 hq8 h_1 h_2 h_3 h_4 h_5 h_6 h_7 h_8 h_9 h_10 h_11 h_46 h_65 h_66 h_70 h_75 h_76 h_81 h_977 h_983 h_1094 h_1095 h_1096 h_1097 h_1098 h_1099 h_1100 h_1101 h_1102 h_1103 h_1104 h_1105 h_1106 h_1107 h_1108 h_1110 h_1123 h_1125 hq6 hq7 h_12 h_21 h_37 h_1109 h_1121; omega) | omega, by first | (clear ha2 hq0 hq1 hq2 hq3 hq4 hq5 hq8 h_1 h_2 h_3 h_4 h_5 h_6 h_7 h_8 h_9 h_10 h_11 h_46 h_65 h_66 h_70 h_75 h_76 h_81 h_977 h_983 h_1094 h_1095 h_1096 h_1097 h_1098 h_1099 h_1100 h_1101 h_1102 h_1103 h_1104 h_1105 h_1106 h_1107 h_1108 h_1110 h_1123 hq6 hq7 h_12 h_21 h_37 h_1109 h_1121; omega) | omega, by first | (clear ha2 hq0 hq2 hq3 hq4 hq5 hq8 h_1 h_2 h_3 h_4 h_5 h_6 h_7 h_8 h_9 h_10 h_11 h_46 h_65 h_66 h_70 h_75 h_76 h_81 h_977 h_983 h_1094 h_1095 h_1096 h_1097 h_1098 h_1099 h_1100 h_1101 h_1102 h_1103 h_1104 h_1105 h_1106 h_1107 h_1108 h_1110 h_1123 h_1125 hq6 hq7 h_12 h_21 h_37 h_1109 h_1121; omega) | omega⟩) hG_74 (fun c_1149 hI_1150 hF_1151 hR_1153 h_1154 h_1155 => ?_))
            refine bk_inl ?_
            have h_1156 := ir_1_2 hI_72
            refine q_aload_n rfl rfl ?_
            have h_1157 := ir_41_5 hI_1150
            have h_1158 := ir_1_5 hI_72
            have h_1159 := ir_41_4 hI_1150
            have h_1160 := ir_41_6 hI_1150
            have h_1161 := rt_ok hR_1153 (by omega)
            have hro_hR_1153 := rt_ok hR_1153 (by omega)
            have kn_1162 : Hid (c_71 1 1 = e1) := (hF_73 1 1 (fun q => q.elim (fun h => absurd h.2 (ni rfl)) (fun q => q.elim (fun h => absurd h.2 (ni rfl)) (fun h => absurd h.2 (ni rfl))))).trans (hid kn_1138)
            have kn_1163 : Hid (c_1149 41 3 = e1) := (hF_1151 41 3 (fun q => q.elim (fun h => absurd h.2 (ni rfl)) (fun q => q.elim (fun h => absurd h.2 (ni rfl)) (fun h => absurd h.2 (ni rfl))))).trans ((up_n (by decide)).trans ((up_n (by decide)).trans (hid kn_1139)))
            have kn_1164 : Hid (c_18 (A + 7) 5 = n0) := (hF_20 (A + 7) 5 (fun h => absurd h.1 (np hA rfl rfl))).trans (hg_n0)
            have kn_1165 : Hid (c_24 (A + 7) 5 = n0) := (hF_26 (A + 7) 5 (fun h => absurd h.1 (np hA rfl rfl))).trans (hid kn_1164)
            have kn_1166 : Hid (c_34 (A + 7) 5 = n0) := (hF_36 (A + 7) 5 (fun h => absurd h.1 (np hA rfl rfl))).trans (hid kn_1165)
            have kn_1167 : Hid (c_62 (A + 7) 5 = n0) := (hF_64 (A + 7) 5 (fun q => q.elim (fun h => absurd h.1 (np hA rfl rfl)) (fun q => q.elim (fun h => absurd h.1 (np hA rfl rfl)) (fun h => absurd h.1 (np hA rfl rfl))))).trans (hid kn_1166)
            have kn_1168 : Hid (c_71 (A + 7) 5 = n0) := (hF_73 (A + 7) 5 (fun q => q.elim (fun h => absurd h.1 (np hA rfl rfl)) (fun q => q.elim (fun h => absurd h.1 (np hA rfl rfl)) (fun h => absurd h.1 (np hA rfl rfl))))).trans (hid kn_1167)
            have kn_1169 : Hid (c_1111 41 29 = n0) := (hF_1113 41 29 (fun h => absurd h.2 (ni rfl))).trans (hr_n0)
            have kn_1170 : Hid (c_1116 41 29 = n0) := (hF_1118 41 29 (fun h => absurd h.2 (ni rfl))).trans (hid kn_1169)
            have kn_1171 : Hid (c_1126 41 29 = n0) := (hF_1128 41 29 (fun h => absurd h.2 (ni rfl))).trans (hid kn_1170)
            have kn_1172 : Hid (c_1149 41 29 = n0) := (hF_1151 41 29 (fun q => q.elim (fun h => absurd h.2 (ni rfl)) (fun q => q.elim (fun h => absurd h.2 (ni rfl)) (fun h => absurd h.2 (ni rfl))))).trans ((up_n (by decide)).trans ((up_n (by decide)).trans (hid kn_1171)))
            have kn_1173 : Hid (c_1149 41 7 = o0 + 1) := (hF_1151 41 7 (fun q => q.elim (fun h => absurd h.2 (ni rfl)) (fun q => q.elim (fun h => absurd h.2 (ni rfl)) (fun h => absurd h.2 (ni rfl))))).trans (up_e rfl)
            have hA_1174 : Ce n0 (c_71 (A + 9)) (c_1149 50) (c_1149 51) := ce_fr hr0 (fun j => (hF_73 (A + 9) j (fun q => q.elim (fun h => absurd h.1 (np hA rfl rfl)) (fun q => q.elim (fun h => absurd h.1 (np hA rfl rfl)) (fun h => absurd h.1 (np hA rfl rfl))))).trans ((hF_64 (A + 9) j (fun q => q.elim (fun h => absurd h.1 (np hA rfl rfl)) (fun q => q.elim (fun h => absurd h.1 (np hA rfl rfl)) (fun h => absurd h.1 (np hA rfl rfl))))).trans ((hF_36 (A + 9) j (fun h => absurd h.1 (np hA rfl rfl))).trans ((hF_26 (A + 9) j (fun h => absurd h.1 (np hA rfl rfl))).trans (hF_20 (A + 9) j (fun h => absurd h.1 (np hA rfl rfl))))))) (fun j => (hF_1151 50 j (fun q => q.elim (fun h => absurd h.1 (nn rfl)) (fun q => q.elim (fun h => absurd h.1 (nn rfl)) (fun h => absurd h.1 (nn rfl))))).trans ((up_c (nn rfl)).trans ((up_c (nn rfl)).trans ((hF_1128 50 j (fun h => absurd h.1 (nn rfl))).trans ((hF_1118 50 j (fun h => absurd h.1 (nn rfl))).trans (hF_1113 50 j (fun h => absurd h.1 (nn rfl)))))))) (fun j => (hF_1151 51 j (fun q => q.elim (fun h => absurd h.1 (nn rfl)) (fun q => q.elim (fun h => absurd h.1 (nn rfl)) (fun h => absurd h.1 (nn rfl))))).trans ((up_c (nn rfl)).trans ((up_c (nn rfl)).trans ((hF_1128 51 j (fun h => absurd h.1 (nn rfl))).trans ((hF_1118 51 j (fun h => absurd h.1 (nn rfl))).trans (hF_1113 51 j (fun h => absurd h.1 (nn rfl))))))))
            refine v_cv rfl rfl rfl rfl (by decide) ⟨⟨rfl, rfl⟩, by decide, rfl⟩ (Nat.le_of_ble_eq_true rfl) (Nat.le_of_ble_eq_true rfl) (H13 (m := c_71) (e1 := e1) (f0 := c_71 1 4) (g0 := c_71 1 5) (p0 := c_71 1 2) (n0 := n0) (o0 := o0 + 1) (by omega) (by omega) hI_1150 hI_72 hI_78 (show 0 ≤ a2 + 1 ∧ a2 + 1 ≤ 6 from ⟨by first | exact rgp_l ha2.1 (by decide) | omega, by first | (clear ha2 hq0 hq1 hq2 hq3 hq4 hq5 hq8 h_1 h_2 h_3 h_4 h_5 h_6 h_7 h_8 h_9 h_10 h_11 h_46 h_65 h_66 h_75 h_76 h_81 h_977 h_983 h_1094 h_1095 h_1096 h_1097 h_1098 h_1099 h_1100 h_1101 h_1102 h_1103 h_1104 h_1105 h_1106 h_1107 h_1108 h_1110 h_1123 h_1125 h_1156 h_1157 h_1158 h_1159 h_1160 h_1161 hq6 hq7 h_12 h_21 h_37 h_1109 h_1121 h_1154 h_1155; omega) | omega⟩) (by first | (clear ha2 hq0 hq1 hq2 hq3 hq4 hq5 hq8 h_1 h_2 h_3 h_4 h_5 h_6 h_7 h_8 h_9 h_10 h_11 h_46 h_65 h_66 h_70 h_81 h_977 h_983 h_1094 h_1095 h_1096 h_1097 h_1098 h_1099 h_1100 h_1101 h_1102 h_1103 h_1104 h_1105 h_1106 h_1107 h_1108 h_1110 h_1123 h_1125 h_1156 h_1157 h_1158 h_1159 h_1160 h_1161 hq6 hq7 h_12 h_21 h_37 h_1109 h_1121 h_1154 h_1155; omega) | omega) (by first | (clear ha2 hq0 hq1 hq2 hq3 hq4 hq5 hq8 h_1 h_2 h_3 h_4 h_5 h_6 h_7 h_8 h_9 h_10 h_11 h_46 h_65 h_66 h_70 h_75 h_76 h_81 h_977 h_983 h_1094 h_1095 h_1096 h_1097 h_1098 h_1099 h_1100 h_1101 h_1102 h_1103 h_1104 h_1105 h_1106 h_1107 h_1108 h_1110 h_1123 h_1125 h_1156 h_1157 h_1159 h_1160 hq6 hq7 h_12 h_21 h_37 h_1109 h_1121 h_1154 h_1155; omega) | omega) (by first | (clear ha2 hq0 hq1 hq3 hq4 hq5 hq8 h_1 h_2 h_3 h_4 h_5 h_6 h_7 h_8 h_9 h_10 h_11 h_46 h_65 h_66 h_70 h_75 h_76 h_81 h_977 h_983 h_1094 h_1095 h_1096 h_1097 h_1098 h_1099 h_1100 h_1101 h_1102 h_1103 h_1104 h_1105 h_1106 h_1107 h_1108 h_1110 h_1123 h_1125 h_1156 h_1157 h_1158 h_1159 h_1160 h_1161 hq6 hq7 h_12 h_21 h_37 h_1109 h_1121 h_1154 h_1155; omega) | omega) (by first | (clear ha2 hq0 hq1 hq2 hq8 h_3 h_4 h_8 h_9 h_11 h_65 h_66 h_70 h_81 h_977 h_983 h_1094 h_1095 h_1096 h_1097 h_1098 h_1099 h_1100 h_1101 h_1102 h_1103 h_1104 h_1105 h_1106 h_1107 h_1108 h_1110 h_1123 h_1160 h_1121; omega) | omega) (by first | (clear ha2 hq0 hq1 hq2 hq3 hq8 h_3 h_4 h_5 h_6 h_7 h_8 h_9 h_11 h_65 h_66 h_70 h_75 h_76 h_81 h_977 h_983 h_1094 h_1095 h_1096 h_1097 h_1098 h_1099 h_1100 h_1101 h_1102 h_1103 h_1104 h_1105 h_1106 h_1107 h_1108 h_1110 h_1123 h_1125 h_1157 h_1158 h_1159 h_1160 h_1121 h_1155; omega) | omega) (by first | (clear ha2 hq0 hq1 hq2 hq3 hq4 hq8 h_1 h_2 h_3 h_4 h_5 h_6 h_7 h_8 h_9 h_10 h_11 h_46 h_65 h_66 h_70 h_75 h_76 h_81 h_977 h_983 h_1094 h_1095 h_1096 h_1097 h_1098 h_1099 h_1100 h_1101 h_1102 h_1103 h_1104 h_1105 h_1106 h_1107 h_1108 h_1110 h_1123 h_1125 h_1156 h_1157 h_1158 h_1159 h_1160 h_1161 hq6 hq7 h_12 h_21 h_37 h_1109 h_1121 h_1154 h_1155; omega) | omega) ((hid kn_1162)) ((hid kn_1163)) (rfl) (rfl) (rfl) ((hid kn_1168)) ((hid kn_1172)) ((hid kn_1173)) (fun j => ((hF_73 2 j (fun q => q.elim (fun h => absurd h.1 (nn rfl)) (fun q => q.elim (fun h => absurd h.1 (nn rfl)) (fun h => absurd h.1 (nn rfl))))).trans ((hF_64 2 j (fun q => q.elim (fun h => absurd h.1 (nn rfl)) (fun q => q.elim (fun h => absurd h.1 (nn rfl)) (fun h => absurd h.1 (nn rfl))))).trans ((hF_36 2 j (fun h => absurd h.1 (nn rfl))).trans ((hF_26 2 j (fun h => absurd h.1 (nn rfl))).trans (hF_20 2 j (fun h => absurd h.1 (nn rfl))))))).trans (hF j)) (fun j => ((hF_1151 43 j (fun q => q.elim (fun h => absurd h.1 (nn rfl)) (fun q => q.elim (fun h => absurd h.1 (nn rfl)) (fun h => absurd h.1 (nn rfl))))).trans ((up_c (nn rfl)).trans ((up_c (nn rfl)).trans ((hF_1128 43 j (fun h => absurd h.1 (nn rfl))).trans ((hF_1118 43 j (fun h => absurd h.1 (nn rfl))).trans (hF_1113 43 j (fun h => absurd h.1 (nn rfl)))))))).trans (hH j)) hU hR_1153 (ce_le hA_1174 (by omega)) hG_80 (fun c_1175 hI_1176 hF_1177 hR_1179 h_1180 h_1181 hA_1182 => ?_))
            refine bk_inl ?_
            have h_1183 := ir_41_29 hI_1176
            have h_1184 := ir_p7_5 hI_78 hA
            have h_1185 := ir_1_2 hI_78
            have h_1186 := ir_41_7 hI_1176
            refine q_aload_n rfl rfl ?_
            refine v_bip rfl (by decide) ?_
            have h_1187 := ir_41_5 hI_1176
            have h_1188 := ir_41_4 hI_1176
            have h_1189 := ir_41_6 hI_1176
            have h_1190 := rt_bad hR_1179 (by omega)
            have hrb_hR_1179 := rt_bad hR_1179 (by omega)
            refine v_cv rfl rfl rfl rfl (by decide) ⟨⟨rfl, rfl⟩, by decide, rfl⟩ (Nat.le_of_ble_eq_true rfl) (Nat.le_of_ble_eq_true rfl) ?_
            refine q_aload_n rfl rfl ?_
            refine v_cv rfl rfl rfl rfl (by decide) ⟨⟨rfl, rfl⟩, by decide, rfl⟩ (Nat.le_of_ble_eq_true rfl) (Nat.le_of_ble_eq_true rfl) ?_
            refine q_aload_n rfl rfl ?_
            refine v_gi (z := 5) (v := c_77 1 5) rfl rfl rfl (by decide) rfl rfl hrb_hR_1179.2.1 ?_
            refine q_iconst rfl ?_
            refine v_ic_ne_t (t := 12) rfl (by decide) ⟨by first | (clear ha2 hq0 hq1 hq2 hq3 hq4 hq5 hq8 h_1 h_2 h_3 h_4 h_5 h_6 h_7 h_8 h_9 h_10 h_11 h_46 h_65 h_66 h_70 h_75 h_76 h_81 h_977 h_983 h_1094 h_1095 h_1096 h_1097 h_1098 h_1099 h_1100 h_1101 h_1102 h_1103 h_1104 h_1105 h_1106 h_1107 h_1108 h_1110 h_1123 h_1125 h_1156 h_1157 h_1158 h_1159 h_1160 h_1161 h_1183 h_1184 h_1185 h_1186 h_1181 h_1187 h_1188 h_1189 hq6 hq7 h_12 h_21 h_37 h_1109 h_1121 h_1154 h_1155 h_1180; omega) | omega, ⟨(Int.le_trans (by decide) h_977.1), (Int.le_trans h_977.2 (by decide))⟩, by decide, by decide⟩ ?_
            refine q_iconst rfl ?_
            refine v_zret rfl rfl (by decide) ?_
            refine bk_inl ?_
            refine v_if_eq_t (t := 24) rfl (by decide) (by decide) ?_
            refine q_aload_n rfl rfl ?_
            refine v_cv rfl rfl rfl rfl (by decide) ⟨⟨rfl, rfl⟩, by decide, rfl⟩ (Nat.le_of_ble_eq_true rfl) (Nat.le_of_ble_eq_true rfl) ?_
            refine q_aload_n rfl rfl ?_
            refine v_gi (z := 5) (v := c_77 1 5) rfl rfl rfl (by decide) rfl rfl hrb_hR_1179.2.1 ?_
            refine q_iconst rfl ?_
            refine v_ic_ne_t (t := 12) rfl (by decide) ⟨by first | (clear ha2 hq0 hq1 hq2 hq3 hq4 hq5 hq8 h_1 h_2 h_3 h_4 h_5 h_6 h_7 h_8 h_9 h_10 h_11 h_46 h_65 h_66 h_70 h_75 h_76 h_81 h_977 h_983 h_1094 h_1095 h_1096 h_1097 h_1098 h_1099 h_1100 h_1101 h_1102 h_1103 h_1104 h_1105 h_1106 h_1107 h_1108 h_1110 h_1123 h_1125 h_1156 h_1157 h_1158 h_1159 h_1160 h_1161 h_1183 h_1184 h_1185 h_1186 h_1181 h_1187 h_1188 h_1189 hq6 hq7 h_12 h_21 h_37 h_1109 h_1121 h_1154 h_1155 h_1180; omega) | omega, ⟨(Int.le_trans (by decide) h_977.1), (Int.le_trans h_977.2 (by decide))⟩, by decide, by decide⟩ ?_
            refine q_iconst rfl ?_
            refine v_zret rfl rfl (by decide) ?_
            refine bk_inl ?_
            refine v_if_eq_t (t := 41) rfl (by decide) (by decide) ?_
            refine q_vret rfl rfl ?_
            refine bk_inl ?_
            refine q_aload_n rfl rfl ?_
            have h_1191 : ¬ c_1175 41 5 = -1 := by rw [show c_1175 41 5 = c_77 1 5 from hrb_hR_1179.2.1]; omega
            refine v_cv rfl rfl rfl rfl (by decide) ⟨⟨rfl, rfl⟩, by decide, rfl⟩ (Nat.le_of_ble_eq_true rfl) (Nat.le_of_ble_eq_true rfl) (n_174 hI_1176 (by omega) ?_)
            refine bk_inl ?_
            refine q_aload_n rfl rfl ?_
            refine v_bip rfl (by decide) ?_
            refine v_cv rfl rfl rfl rfl (by decide) ⟨⟨rfl, rfl⟩, by decide, rfl⟩ (Nat.le_of_ble_eq_true rfl) (Nat.le_of_ble_eq_true rfl) ?_
            refine q_aload_n rfl rfl ?_
            refine v_cv rfl rfl rfl rfl (by decide) ⟨⟨rfl, rfl⟩, by decide, rfl⟩ (Nat.le_of_ble_eq_true rfl) (Nat.le_of_ble_eq_true rfl) ?_
            refine q_aload_n rfl rfl ?_
            refine v_gi (z := 5) (v := c_77 1 5) rfl rfl rfl (by decide) rfl rfl hrb_hR_1179.2.1 ?_
            refine q_iconst rfl ?_
            refine v_ic_ne_t (t := 12) rfl (by decide) ⟨by first | (clear ha2 hq0 hq1 hq2 hq3 hq4 hq5 hq8 h_1 h_2 h_3 h_4 h_5 h_6 h_7 h_8 h_9 h_10 h_11 h_46 h_65 h_66 h_70 h_75 h_76 h_81 h_977 h_983 h_1094 h_1095 h_1096 h_1097 h_1098 h_1099 h_1100 h_1101 h_1102 h_1103 h_1104 h_1105 h_1106 h_1107 h_1108 h_1110 h_1123 h_1125 h_1156 h_1157 h_1158 h_1159 h_1160 h_1161 h_1183 h_1184 h_1185 h_1186 h_1181 h_1187 h_1188 h_1189 hq6 hq7 h_12 h_21 h_37 h_1109 h_1121 h_1154 h_1155 h_1180; omega) | omega, ⟨(Int.le_trans (by decide) h_977.1), (Int.le_trans h_977.2 (by decide))⟩, by decide, by decide⟩ ?_
            refine q_iconst rfl ?_
            refine v_zret rfl rfl (by decide) ?_
            refine bk_inl ?_
            refine v_if_eq_t (t := 24) rfl (by decide) (by decide) ?_
            refine q_aload_n rfl rfl ?_
            refine v_cv rfl rfl rfl rfl (by decide) ⟨⟨rfl, rfl⟩, by decide, rfl⟩ (Nat.le_of_ble_eq_true rfl) (Nat.le_of_ble_eq_true rfl) ?_
            refine q_aload_n rfl rfl ?_
            refine v_gi (z := 5) (v := c_77 1 5) rfl rfl rfl (by decide) rfl rfl hrb_hR_1179.2.1 ?_
            refine q_iconst rfl ?_
            refine v_ic_ne_t (t := 12) rfl (by decide) ⟨by first | (clear ha2 hq0 hq1 hq2 hq3 hq4 hq5 hq8 h_1 h_2 h_3 h_4 h_5 h_6 h_7 h_8 h_9 h_10 h_11 h_46 h_65 h_66 h_70 h_75 h_76 h_81 h_977 h_983 h_1094 h_1095 h_1096 h_1097 h_1098 h_1099 h_1100 h_1101 h_1102 h_1103 h_1104 h_1105 h_1106 h_1107 h_1108 h_1110 h_1123 h_1125 h_1156 h_1157 h_1158 h_1159 h_1160 h_1161 h_1183 h_1184 h_1185 h_1186 h_1181 h_1187 h_1188 h_1189 hq6 hq7 h_12 h_21 h_37 h_1109 h_1121 h_1154 h_1155 h_1180; omega) | omega, ⟨(Int.le_trans (by decide) h_977.1), (Int.le_trans h_977.2 (by decide))⟩, by decide, by decide⟩ ?_
            refine q_iconst rfl ?_
            refine v_zret rfl rfl (by decide) ?_
            refine bk_inl ?_
            refine v_if_eq_t (t := 41) rfl (by decide) (by decide) ?_
            refine q_vret rfl rfl ?_
            refine bk_inl ?_
            refine q_aload_n rfl rfl ?_
            refine q_dup rfl rfl ?_
            refine v_gi (z := 7) (v := c_1175 41 7) rfl rfl rfl (by decide) rfl rfl rfl ?_
            refine q_iconst rfl ?_
            refine v_isub (v := c_1175 41 7 - 1) rfl rfl ?_
            refine v_pi (z := 7) rfl rfl rfl (by decide) rfl rfl rfl (by decide) ?_
            refine q_aload_n rfl rfl ?_
            refine q_iload_n rfl rfl ?_
            refine q_iconst rfl ?_
            refine v_cv rfl rfl rfl rfl (by decide) ⟨⟨rfl, rfl⟩, by decide, rfl⟩ (Nat.le_of_ble_eq_true rfl) (Nat.le_of_ble_eq_true rfl) ?_
            refine q_aload_n rfl rfl ?_
            refine v_cv rfl rfl rfl rfl (by decide) ⟨⟨rfl, rfl⟩, by decide, rfl⟩ (Nat.le_of_ble_eq_true rfl) (Nat.le_of_ble_eq_true rfl) ?_
            refine q_aload_n rfl rfl ?_
            refine v_gi (z := 5) (v := c_77 1 5) rfl rfl rfl (by decide) rfl rfl (((up_n (by decide))).trans (hrb_hR_1179.2.1)) ?_
            refine q_iconst rfl ?_
            refine v_ic_ne_t (t := 12) rfl (by decide) ⟨by first | (clear ha2 hq0 hq1 hq2 hq3 hq4 hq5 hq8 h_1 h_2 h_3 h_4 h_5 h_6 h_7 h_8 h_9 h_10 h_11 h_46 h_65 h_66 h_70 h_75 h_76 h_81 h_977 h_983 h_1094 h_1095 h_1096 h_1097 h_1098 h_1099 h_1100 h_1101 h_1102 h_1103 h_1104 h_1105 h_1106 h_1107 h_1108 h_1110 h_1123 h_1125 h_1156 h_1157 h_1158 h_1159 h_1160 h_1161 h_1183 h_1184 h_1185 h_1186 h_1181 h_1187 h_1188 h_1189 hq6 hq7 h_12 h_21 h_37 h_1109 h_1121 h_1154 h_1155 h_1180; omega) | omega, ⟨(Int.le_trans (by decide) h_977.1), (Int.le_trans h_977.2 (by decide))⟩, by decide, by decide⟩ ?_
            refine q_iconst rfl ?_
            refine v_zret rfl rfl (by decide) ?_
            refine bk_inl ?_
            refine v_if_ne_f (t := 8) rfl (by decide) (by decide) ?_
            refine q_vret rfl rfl ?_
            refine bk_inl ?_
            refine q_vret rfl rfl ?_
            refine bk_inl ?_
            refine q_goto (t := 154) rfl (by decide) ?_
            refine q_vret rfl rfl ?_
            have hI_1192 := iw_41_7 (v := c_1175 41 7 - 1) hI_1176 ⟨by first | (clear hq0 hq1 hq2 hq3 hq4 hq5 hq8 h_1 h_2 h_3 h_4 h_5 h_6 h_7 h_8 h_9 h_10 h_11 h_46 h_65 h_66 h_70 h_75 h_76 h_81 h_977 h_983 h_1094 h_1095 h_1096 h_1097 h_1098 h_1099 h_1100 h_1101 h_1102 h_1103 h_1104 h_1105 h_1106 h_1107 h_1108 h_1110 h_1123 h_1125 h_1156 h_1157 h_1158 h_1159 h_1160 h_1161 h_1183 h_1184 h_1185 h_1186 h_1187 h_1188 h_1189 h_1190 hq6 hq7 h_12 h_21 h_37 h_1109 h_1121 h_1154 h_1155 h_1180; omega) | omega, by first | exact rgm_h h_1186.2 (by decide) | omega⟩
            have h_1193 : (up c_1175 41 7 (c_1175 41 7 - 1)) 41 5 = c_77 1 5 := (((up_n (by decide))).trans (hrb_hR_1179.2.1))
            have h_1194 : (up c_1175 41 7 (c_1175 41 7 - 1)) 41 4 = c_1175 41 4 := (up_n (by decide))
            have h_1195 : (up c_1175 41 7 (c_1175 41 7 - 1)) 41 6 = c_77 1 4 := (((up_n (by decide))).trans (hrb_hR_1179.2.2.2))
            have h_1196 : (up c_1175 41 7 (c_1175 41 7 - 1)) 41 29 = c_1175 41 29 := (up_n (by decide))
            have h_1197 : (up c_1175 41 7 (c_1175 41 7 - 1)) 41 7 = c_1175 41 7 - 1 := (up_e rfl)
            have h_1198 : (up c_1175 41 7 (c_1175 41 7 - 1)) 41 29 = c_1175 41 29 := (up_n (by decide))
            exact K (up c_1175 41 7 (c_1175 41 7 - 1))  hI_1192 (fun a j hm => (up_b (Decidable.or_iff_not_imp_left.mpr (fun h1 h2 => hm (Or.inr (Or.inr (Or.inr (Or.inl ⟨Decidable.not_not.mp h1, h2⟩))))))).trans ((hF_1177 a j (fun q => q.elim (fun h => hm (Or.inl h)) (fun q => q.elim (fun h => hm (Or.inr (Or.inl h))) (fun q => q.elim (fun h => hm (Or.inr (Or.inr (Or.inl h)))) (fun q => q.elim (fun h => hm (Or.inr (Or.inr (Or.inr (Or.inl h))))) (fun q => q.elim (fun h => hm (Or.inr (Or.inr (Or.inr (Or.inr (Or.inl h)))))) (fun q => q.elim (fun h => hm (Or.inr (Or.inr (Or.inr (Or.inr (Or.inr (Or.inl h))))))) (fun h => hm (Or.inr (Or.inr (Or.inr (Or.inr (Or.inr (Or.inr h)))))))))))))).trans ((hF_1151 a j (fun q => q.elim (fun h => hm (Or.inl h)) (fun q => q.elim (fun h => hm (Or.inr (Or.inl h))) (fun h => hm (Or.inr (Or.inr (Or.inl h))))))).trans ((up_b (Decidable.or_iff_not_imp_left.mpr (fun h1 h2 => hm (Or.inr (Or.inr (Or.inr (Or.inl ⟨Decidable.not_not.mp h1, h2⟩))))))).trans ((up_b (Decidable.or_iff_not_imp_left.mpr (fun h1 h2 => hm (Or.inl ⟨Decidable.not_not.mp h1, h2⟩)))).trans ((hF_1128 a j (fun h => hm (Or.inl h))).trans ((hF_1118 a j (fun h => hm (Or.inl h))).trans (hF_1113 a j (fun h => hm (Or.inl h)))))))))) (rt_i2 ⟨⟨by first | (clear ha2 hq0 hq1 hq2 hq3 hq4 hq5 hq8 h_1 h_2 h_3 h_4 h_5 h_6 h_7 h_8 h_9 h_10 h_11 h_46 h_65 h_66 h_70 h_75 h_76 h_81 h_977 h_983 h_1094 h_1096 h_1097 h_1098 h_1099 h_1100 h_1101 h_1102 h_1103 h_1104 h_1105 h_1106 h_1107 h_1108 h_1110 h_1123 h_1125 h_1156 h_1157 h_1158 h_1159 h_1160 h_1161 h_1183 h_1184 h_1185 h_1186 h_1181 h_1187 h_1188 h_1189 hq6 hq7 h_12 h_21 h_37 h_1109 h_1121 h_1154 h_1155 h_1180; omega) | omega, by first | (clear ha2 hq0 hq1 hq2 hq3 hq4 hq5 hq8 h_1 h_2 h_3 h_4 h_5 h_6 h_7 h_8 h_9 h_10 h_11 h_46 h_65 h_66 h_70 h_75 h_76 h_81 h_977 h_983 h_1095 h_1096 h_1097 h_1098 h_1099 h_1100 h_1101 h_1102 h_1103 h_1104 h_1105 h_1106 h_1107 h_1108 h_1110 h_1123 h_1125 h_1156 h_1157 h_1158 h_1159 h_1160 h_1161 h_1183 h_1184 h_1185 h_1186 h_1181 h_1187 h_1188 h_1189 h_1190 hq6 hq7 h_12 h_21 h_37 h_1109 h_1121 h_1154 h_1155 h_1180; omega) | omega⟩, by first | (clear ha2 hq0 hq1 hq2 hq3 hq4 hq5 hq8 h_1 h_2 h_3 h_4 h_5 h_6 h_7 h_8 h_9 h_10 h_11 h_46 h_65 h_66 h_70 h_75 h_76 h_81 h_977 h_983 h_1094 h_1095 h_1096 h_1097 h_1098 h_1099 h_1101 h_1102 h_1103 h_1104 h_1105 h_1106 h_1107 h_1108 h_1110 h_1123 h_1125 h_1156 h_1157 h_1158 h_1159 h_1160 h_1161 h_1183 h_1184 h_1185 h_1186 h_1181 h_1187 h_1188 h_1189 h_1190 hq6 hq7 h_12 h_21 h_37 h_1109 h_1121 h_1154 h_1155 h_1180; omega) | omega, by first | (clear ha2 hq0 hq1 hq2 hq3 hq4 hq5 hq8 h_1 h_2 h_3 h_4 h_5 h_6 h_7 h_8 h_9 h_10 h_11 h_46 h_65 h_66 h_70 h_75 h_76 h_81 h_977 h_983 h_1094 h_1095 h_1096 h_1097 h_1098 h_1099 h_1101 h_1102 h_1103 h_1104 h_1105 h_1106 h_1107 h_1108 h_1110 h_1123 h_1125 h_1156 h_1157 h_1158 h_1159 h_1160 h_1161 h_1183 h_1184 h_1185 h_1186 h_1181 h_1187 h_1188 h_1189 hq6 hq7 h_12 h_21 h_37 h_1109 h_1121 h_1154 h_1155 h_1180; omega) | omega, by first | (clear ha2 hq0 hq1 hq2 hq3 hq4 hq5 hq8 h_1 h_2 h_3 h_4 h_5 h_6 h_7 h_8 h_9 h_10 h_11 h_46 h_65 h_66 h_70 h_75 h_76 h_81 h_977 h_983 h_1094 h_1096 h_1097 h_1098 h_1099 h_1100 h_1101 h_1102 h_1103 h_1104 h_1105 h_1106 h_1107 h_1108 h_1110 h_1123 h_1125 h_1156 h_1157 h_1158 h_1159 h_1160 h_1161 h_1183 h_1184 h_1185 h_1186 h_1181 h_1187 h_1188 h_1189 h_1190 hq6 hq7 h_12 h_21 h_37 h_1109 h_1121 h_1154 h_1155 h_1180; omega) | omega⟩) (Or.inr (Or.inl (by first | (clear ha2 hq0 hq1 hq2 hq3 hq4 hq5 hq8 h_1 h_2 h_3 h_4 h_5 h_6 h_7 h_8 h_9 h_10 h_11 h_46 h_65 h_66 h_70 h_75 h_76 h_81 h_977 h_983 h_1094 h_1096 h_1097 h_1098 h_1099 h_1100 h_1101 h_1102 h_1103 h_1104 h_1105 h_1106 h_1107 h_1108 h_1110 h_1123 h_1125 h_1156 h_1157 h_1158 h_1159 h_1160 h_1161 h_1183 h_1184 h_1185 h_1186 h_1181 h_1187 h_1188 h_1189 hq6 hq7 h_12 h_21 h_37 h_1109 h_1121 h_1154 h_1155 h_1180; omega) | omega))) (by first | (clear ha2 hq0 hq1 hq2 hq3 hq4 hq5 hq8 h_1 h_2 h_3 h_4 h_5 h_6 h_7 h_8 h_9 h_10 h_11 h_46 h_65 h_66 h_70 h_75 h_76 h_81 h_977 h_983 h_1094 h_1095 h_1096 h_1097 h_1098 h_1099 h_1100 h_1101 h_1102 h_1103 h_1104 h_1105 h_1106 h_1107 h_1108 h_1110 h_1123 h_1125 h_1156 h_1157 h_1158 h_1159 h_1160 h_1161 h_1183 h_1184 h_1185 h_1186 h_1187 h_1188 h_1189 h_1190 hq6 hq7 h_12 h_21 h_37 h_1109 h_1121 h_1154 h_1155 h_1180; omega) | omega) (fun hz => absurd hz (by omega))
    · as_aux_lemma =>
        skip
        have h_1199 := ir_1_5 hI_72
        refine v_cv rfl rfl rfl (ck_p7 hA) (a68 hA rfl) ⟨⟨rfl, rfl⟩, by decide, rfl⟩ (Nat.le_of_ble_eq_true rfl) (Nat.le_of_ble_eq_true rfl) (b_13 (a2 := a2 + 1) (f9 := c_71 1 4) (p9 := c_71 1 5) hI_72 hA (show 0 ≤ a2 + 1 ∧ a2 + 1 ≤ 6 from ⟨by first | exact rgp_l ha2.1 (by decide) | omega, by first | (clear ha2 hq0 hq1 hq2 hq3 hq4 hq5 hq8 h_1 h_2 h_3 h_4 h_5 h_6 h_7 h_8 h_9 h_10 h_11 h_46 h_65 h_66 h_75 hq6 hq7 h_12 h_21 h_37; omega) | omega⟩) (by omega) (rfl) (rfl) (fun c_1200 hI_1201 hF_1202 hz_1203 hz_1204 => ?_))
        refine bk_inl ?_
        refine q_aload_n rfl rfl ?_
        refine q_ldc_s rfl rfl rfl (by decide) ?_
        refine v_cv rfl rfl rfl rfl (by decide) ⟨⟨rfl, rfl⟩, by decide, rfl⟩ (Nat.le_of_ble_eq_true rfl) (Nat.le_of_ble_eq_true rfl) ?_
        refine q_aload_n rfl rfl ?_
        refine v_cv rfl rfl rfl rfl (by decide) ⟨⟨rfl, rfl⟩, by decide, rfl⟩ (Nat.le_of_ble_eq_true rfl) (Nat.le_of_ble_eq_true rfl) ?_
        refine q_aload_n rfl rfl ?_
        refine v_gi (z := 4) (v := c_71 1 4) rfl rfl rfl (by decide) rfl rfl (hz_1203) ?_
        refine v_if_ne_t (t := 11) rfl (by decide) ⟨by first | (clear ha2 hq0 hq1 hq2 hq3 hq4 hq5 hq8 h_1 h_2 h_3 h_4 h_5 h_6 h_7 h_8 h_9 h_10 h_11 h_46 h_65 h_66 h_70 h_75 h_1199 hq6 hq7 h_12 h_21 h_37; omega) | omega, ⟨(Int.le_trans (by decide) h_75.1), (Int.le_trans h_75.2 (by decide))⟩, by decide, by decide⟩ ?_
        refine q_iconst rfl ?_
        refine v_zret rfl rfl (by decide) ?_
        refine bk_inl ?_
        refine v_if_eq_t (t := 25) rfl (by decide) (by decide) ?_
        refine q_vret rfl rfl ?_
        refine bk_inl ?_
        refine q_aload_n rfl rfl ?_
        refine q_aload_n rfl rfl ?_
        refine q_iload_n rfl rfl ?_
        refine q_iconst rfl ?_
        refine v_iadd (v := a2 + 1) rfl rfl ?_
        refine v_cv rfl rfl rfl (ck_p7 hA) (a68 hA rfl) ⟨⟨rfl, rfl⟩, by decide, rfl⟩ (Nat.le_of_ble_eq_true rfl) (Nat.le_of_ble_eq_true rfl) (b_13 (a2 := a2 + 1) (f9 := c_71 1 4) (p9 := c_71 1 5) hI_1201 hA (show 0 ≤ a2 + 1 ∧ a2 + 1 ≤ 6 from ⟨by first | exact rgp_l ha2.1 (by decide) | omega, by first | (clear ha2 hq0 hq1 hq2 hq3 hq4 hq5 hq8 h_1 h_2 h_3 h_4 h_5 h_6 h_7 h_8 h_9 h_10 h_11 h_46 h_65 h_66 h_75 h_1199 hq6 hq7 h_12 h_21 h_37; omega) | omega⟩) (by omega) ((hz_1203)) ((hz_1204)) (fun c_1205 hI_1206 hF_1207 hz_1208 hz_1209 => ?_))
        refine bk_inl ?_
        refine q_aload_n rfl rfl ?_
        refine q_ldc_s rfl rfl rfl (by decide) ?_
        refine v_cv rfl rfl rfl rfl (by decide) ⟨⟨rfl, rfl⟩, by decide, rfl⟩ (Nat.le_of_ble_eq_true rfl) (Nat.le_of_ble_eq_true rfl) ?_
        refine q_aload_n rfl rfl ?_
        refine v_cv rfl rfl rfl rfl (by decide) ⟨⟨rfl, rfl⟩, by decide, rfl⟩ (Nat.le_of_ble_eq_true rfl) (Nat.le_of_ble_eq_true rfl) ?_
        refine q_aload_n rfl rfl ?_
        refine v_gi (z := 4) (v := c_71 1 4) rfl rfl rfl (by decide) rfl rfl (hz_1208) ?_
        refine v_if_ne_t (t := 11) rfl (by decide) ⟨by first | (clear ha2 hq0 hq1 hq2 hq3 hq4 hq5 hq8 h_1 h_2 h_3 h_4 h_5 h_6 h_7 h_8 h_9 h_10 h_11 h_46 h_65 h_66 h_70 h_75 h_1199 hq6 hq7 h_12 h_21 h_37; omega) | omega, ⟨(Int.le_trans (by decide) h_75.1), (Int.le_trans h_75.2 (by decide))⟩, by decide, by decide⟩ ?_
        refine q_iconst rfl ?_
        refine v_zret rfl rfl (by decide) ?_
        refine bk_inl ?_
        refine v_if_eq_t (t := 25) rfl (by decide) (by decide) ?_
        refine q_vret rfl rfl ?_
        refine bk_inl ?_
        refine q_aload_n rfl rfl ?_
        refine v_sip rfl (by decide) ?_
        refine q_iload rfl rfl ?_
        refine v_iadd (v := (wd1_0 F (nx F e1 p0) (ln F e1 (nx F e1 p0))) + 2005) rfl (by first | (clear ha2 hq0 hq1 hq2 hq3 hq4 hq5 hq8 h_1 h_2 h_3 h_4 h_5 h_6 h_7 h_8 h_9 h_10 h_11 h_46 h_65 h_66 h_70 h_75 h_1199 hq6 hq7 h_12 h_21 h_37; omega) | omega) ?_
        refine v_bip rfl (by decide) ?_
        refine v_isub (v := (wd1_0 F (nx F e1 p0) (ln F e1 (nx F e1 p0))) + 1997) rfl (by first | (clear ha2 hq0 hq1 hq2 hq3 hq4 hq5 hq8 h_1 h_2 h_3 h_4 h_5 h_6 h_7 h_8 h_9 h_10 h_11 h_46 h_65 h_66 h_70 h_75 h_1199 hq6 hq7 h_12 h_21 h_37; omega) | omega) ?_
        refine v_cv rfl rfl rfl (ck_p7 hA) (a68 hA rfl) ⟨⟨rfl, rfl⟩, by decide, rfl⟩ (Nat.le_of_ble_eq_true rfl) (Nat.le_of_ble_eq_true rfl) ?_
        refine q_aload_n rfl rfl ?_
        have h_1210 := ir_p7_5 hI_1206 hA
        refine v_gi (z := 5) (v := c_1205 (A + 7) 5) rfl rfl (ck_p7 hA) (a68 hA rfl) rfl rfl rfl ?_
        refine q_aload_n rfl rfl ?_
        refine v_gr (t := (A + 9)) rfl rfl (ck_p7 hA) (a68 hA rfl) rfl ?_
        refine v_al rfl (ck_p9 hA) (a68 hA rfl) (by decide) ?_
        by_cases h_1211 : c_1205 (A + 7) 5 ≥ 150
        · refine v_ic_ge_t (t := 32) rfl (by decide) ⟨by decide, h_1211, (Int.le_trans h_1210.2 (by decide))⟩ ?_
          refine q_vret rfl rfl ?_
          refine bk_inl ?_
          refine q_vret rfl rfl ?_
          intro hE_1212
          have hW : Wd P Q P P c_1205 = Wd P Q P P m9 := (Prod.mk.inj (Prod.mk.inj hE_1212).2).1
          have h_1213 := ir_1_4 hJ9
          have h_1214 : m9 1 4 = c_71 1 4 := wd_fv (z := 4) 4 rfl hW rfl rfl rfl rfl (by decide) (hz_1208) ⟨(Int.le_trans (by decide) h_75.1), (Int.le_trans h_75.2 (by decide))⟩ ⟨(Int.le_trans (by decide) h_1213.1), (Int.le_trans h_1213.2 (by decide))⟩
          have h_1215 := ir_1_2 hI_1206
          have h_1216 := ir_1_2 hJ9
          have h_1217 : m9 1 2 = c_1205 1 2 := wd_fv (z := 2) 2 rfl hW rfl rfl rfl rfl (by decide) rfl ⟨(Int.le_trans (by decide) h_1215.1), (Int.le_trans h_1215.2 (by decide))⟩ ⟨(Int.le_trans (by decide) h_1216.1), (Int.le_trans h_1216.2 (by decide))⟩
          have h_1218 := ir_1_5 hJ9
          have h_1219 : m9 1 5 = c_71 1 5 := wd_fv (z := 5) 5 rfl hW rfl rfl rfl rfl (by decide) (hz_1209) ⟨(Int.le_trans (by decide) h_1199.1), (Int.le_trans h_1199.2 (by decide))⟩ ⟨(Int.le_trans (by decide) h_1218.1), (Int.le_trans h_1218.2 (by decide))⟩
          have h_1220 := ir_p7_5 hJ9 hA
          have h_1221 : m9 (A + 7) 5 = c_1205 (A + 7) 5 := wd_fv (z := 5) 5 rfl hW (ck_p7 hA) (ck_p7 hA) rfl rfl (by omega) rfl ⟨(Int.le_trans (by decide) h_1210.1), (Int.le_trans h_1210.2 (by decide))⟩ ⟨(Int.le_trans (by decide) h_1220.1), (Int.le_trans h_1220.2 (by decide))⟩
          refine q_aload_n rfl rfl ?_
          refine v_cv rfl rfl rfl rfl (by decide) ⟨⟨rfl, rfl⟩, by decide, rfl⟩ (Nat.le_of_ble_eq_true rfl) (Nat.le_of_ble_eq_true rfl) ?_
          refine q_aload_n rfl rfl ?_
          have h_1222 := ir_41_5 hI
          have h_1223 := ir_41_4 hI
          have h_1224 := ir_41_6 hI
          have h_1225 := rt_ok hRt (by omega)
          have hro_hRt := rt_ok hRt (by omega)
          refine v_gi (z := 5) (v := (-1)) rfl rfl rfl (by decide) rfl rfl hro_hRt.2.1 ?_
          refine q_iconst rfl ?_
          refine v_ic_ne_f (t := 12) rfl (by decide) (by decide) ?_
          refine q_iconst rfl ?_
          refine q_goto (t := 13) rfl (by decide) ?_
          refine v_zret rfl rfl (by decide) ?_
          refine bk_inl ?_
          refine v_if_ne_t (t := 8) rfl (by decide) (by decide) ?_
          refine q_aload_n rfl rfl ?_
          have h_1226 : -2147483648 ≤ (H (nx F e1 p0)) ∧ (H (nx F e1 p0)) ≤ 2147483647 := by rw [← hH (nx F e1 p0)]; exact ir_43 hI (nx F e1 p0)
          have h_1227 := hU (nx F e1 p0) (by omega) (by omega)
          have h_1228 := hb_or (b := H) (e := e1) (r := (nx F e1 p0))
          have h_1229 := hb_bd (b := H) (e := e1) (r := (nx F e1 p0)) (lo := -2147483648) (hi := 2147483647) h_1226 (by decide)
          refine v_cv rfl rfl rfl rfl (by decide) ⟨⟨rfl, rfl⟩, by decide, rfl⟩ (Nat.le_of_ble_eq_true rfl) (Nat.le_of_ble_eq_true rfl) (f_154 (e1 := e1) (a9 := p0) (B := H) (r8 := (nx F e1 p0)) (r := (hb H e1 (nx F e1 p0))) hI ((hr_e1)) (((hro_hRt.2.2.1).trans ((hg_p0)))) (fun j => hH j) ((nx_tr hU (by first | (clear ha2 hq0 hq1 hq2 hq3 hq4 hq5 hq8 h_1 h_2 h_3 h_4 h_6 h_7 h_8 h_9 h_10 h_11 h_46 h_65 h_66 h_70 h_75 h_1199 h_1210 h_1211 h_1213 h_1214 h_1215 h_1216 h_1217 h_1218 h_1219 h_1220 h_1221 h_1222 h_1223 h_1224 h_1225 hq6 hq7 h_12 h_21 h_37; omega) | omega) (by first | (clear ha2 hq0 hq1 hq2 hq3 hq4 hq8 h_1 h_2 h_3 h_4 h_5 h_6 h_7 h_8 h_9 h_10 h_11 h_46 h_65 h_66 h_70 h_75 h_1199 h_1210 h_1211 h_1213 h_1214 h_1215 h_1216 h_1217 h_1218 h_1219 h_1220 h_1221 h_1222 h_1223 h_1224 h_1225 hq6 hq7 h_12 h_21 h_37; omega) | omega)).trans (rfl)) rfl (fun c_1230 hI_1231 hF_1232 h_1233 => ?_))
          refine bk_inl ?_
          refine v_bip rfl (by decide) ?_
          refine v_ic_ne_t (t := 45) rfl (by decide) ⟨by first | (clear ha2 hq0 hq1 hq2 hq3 hq8 h_3 h_4 h_5 h_6 h_7 h_8 h_9 h_11 h_65 h_66 h_70 h_75 h_1199 h_1210 h_1211 h_1213 h_1214 h_1215 h_1216 h_1217 h_1218 h_1219 h_1220 h_1221 h_1222 h_1223 h_1224 h_1225; omega) | omega, ⟨h_1229.1, h_1229.2⟩, by decide, by decide⟩ ?_
          refine q_aload_n rfl rfl ?_
          have kn_1234 : Hid (c_1230 41 3 = e1) := (hF_1232 41 3 (fun h => absurd h.2 (ni rfl))).trans (hr_e1)
          refine v_cv rfl rfl rfl rfl (by decide) ⟨⟨rfl, rfl⟩, by decide, rfl⟩ (Nat.le_of_ble_eq_true rfl) (Nat.le_of_ble_eq_true rfl) (f_154 (e1 := e1) (a9 := (nx F e1 p0)) (B := H) (r8 := (nx F e1 p0)) (r := (hb H e1 (nx F e1 p0))) hI_1231 ((hid kn_1234)) ((h_1233)) (fun j => (hF_1232 43 j (fun h => absurd h.1 (nn rfl))).trans (hH j)) ((nx_tr hU (by first | (clear ha2 hq0 hq1 hq2 hq3 hq4 hq5 hq8 h_1 h_2 h_3 h_4 h_6 h_7 h_8 h_9 h_11 h_46 h_65 h_66 h_70 h_75 h_1199 h_1210 h_1211 h_1213 h_1214 h_1215 h_1216 h_1217 h_1218 h_1219 h_1220 h_1221 h_1222 h_1223 h_1224 h_1225 h_1226 h_1227 h_1229 hq6 hq7 h_12 h_21 h_37 h_1228; omega) | omega) (by first | (clear ha2 hq0 hq1 hq2 hq3 hq4 hq8 h_1 h_2 h_3 h_4 h_5 h_6 h_7 h_8 h_9 h_10 h_11 h_46 h_65 h_66 h_70 h_75 h_1199 h_1210 h_1211 h_1213 h_1214 h_1215 h_1216 h_1217 h_1218 h_1219 h_1220 h_1221 h_1222 h_1223 h_1224 h_1225 h_1226 h_1227 h_1229 hq6 hq7 h_12 h_21 h_37 h_1228; omega) | omega)).trans ((nx_z (by omega)))) rfl (fun c_1235 hI_1236 hF_1237 h_1238 => ?_))
          refine bk_inl ?_
          refine q_call rfl rfl rfl rfl (f_156 (a0 := (hb H e1 (nx F e1 p0))) hI_1236 (show (-2147483648) ≤ (hb H e1 (nx F e1 p0)) ∧ (hb H e1 (nx F e1 p0)) ≤ 2147483647 from h_1229) (fun y_1239 hy_1239 h_1240 => ?_))
          refine bk_inl ?_
          refine v_if_eq_t (t := 71) rfl (by decide) (by first | (clear ha2 hq0 hq1 hq2 hq3 hq8 h_3 h_4 h_5 h_6 h_7 h_8 h_9 h_11 h_65 h_66 h_70 h_75 h_1199 h_1210 h_1211 h_1213 h_1214 h_1215 h_1216 h_1217 h_1218 h_1219 h_1220 h_1221 h_1222 h_1223 h_1224 h_1225; omega) | omega) ?_
          refine q_aload_n rfl rfl ?_
          have kn_1241 : Hid (c_1235 41 3 = e1) := (hF_1237 41 3 (fun h => absurd h.2 (ni rfl))).trans (hid kn_1234)
          have h_1242 := wv_bd (b := F) (r := (nx F e1 p0)) (l := (ln F e1 (nx F e1 p0))) (fun j h1 h2 => ⟨(ln_in (e := e1) (a := (nx F e1 p0)) h1 h2).1, (ln_in (e := e1) (a := (nx F e1 p0)) h1 h2).2.1⟩)
          have h_1243 := wr1_8 (b := F) (r := (nx F e1 p0)) (l := (ln F e1 (nx F e1 p0))) (by omega) (fun j h1 h2 => ⟨(ln_in (e := e1) (a := (nx F e1 p0)) h1 h2).1, (ln_in (e := e1) (a := (nx F e1 p0)) h1 h2).2.1⟩) (by omega)
          have h_1244 : (wv F (nx F e1 p0) (ln F e1 (nx F e1 p0))) = 12748404 → (ln F e1 (nx F e1 p0)) - (nx F e1 p0) = 5 := wl_least (by omega) (fun j h1 h2 => ⟨(ln_in (e := e1) (a := (nx F e1 p0)) h1 h2).1, (ln_in (e := e1) (a := (nx F e1 p0)) h1 h2).2.1⟩)
          refine v_cv rfl rfl rfl rfl (by decide) ⟨⟨rfl, rfl⟩, by decide, rfl⟩ (Nat.le_of_ble_eq_true rfl) (Nat.le_of_ble_eq_true rfl) (f_157 (e1 := e1) (a9 := (nx F e1 p0)) (B := H) (r8 := (nx F e1 p0)) (L8 := (ln F e1 (nx F e1 p0))) (W8 := (wv F (nx F e1 p0) (ln F e1 (nx F e1 p0)))) hI_1236 ((hid kn_1241)) ((h_1238)) (fun j => ((hF_1237 43 j (fun h => absurd h.1 (nn rfl))).trans (hF_1232 43 j (fun h => absurd h.1 (nn rfl)))).trans (hH j)) ((nx_tr hU (by first | (clear ha2 hq0 hq1 hq2 hq3 hq4 hq5 hq8 h_1 h_2 h_3 h_4 h_6 h_7 h_8 h_9 h_11 h_46 h_65 h_66 h_70 h_75 h_1199 h_1210 h_1211 h_1213 h_1214 h_1215 h_1216 h_1217 h_1218 h_1219 h_1220 h_1221 h_1222 h_1223 h_1224 h_1225 h_1226 h_1227 h_1229 hq6 hq7 h_12 h_21 h_37 h_1228 h_1240; omega) | omega) (by first | (clear ha2 hq0 hq1 hq2 hq3 hq4 hq8 h_1 h_2 h_3 h_4 h_5 h_6 h_7 h_8 h_9 h_10 h_11 h_46 h_65 h_66 h_70 h_75 h_1199 h_1210 h_1211 h_1213 h_1214 h_1215 h_1216 h_1217 h_1218 h_1219 h_1220 h_1221 h_1222 h_1223 h_1224 h_1225 h_1226 h_1227 h_1229 hq6 hq7 h_12 h_21 h_37 h_1228 h_1240; omega) | omega)).trans ((nx_z (by omega)))) ((ln_tr hU (by first | (clear ha2 hq0 hq1 hq2 hq3 hq4 hq5 hq8 h_1 h_2 h_3 h_4 h_6 h_7 h_8 h_9 h_11 h_46 h_65 h_66 h_70 h_75 h_1199 h_1210 h_1211 h_1213 h_1214 h_1215 h_1216 h_1217 h_1218 h_1219 h_1220 h_1221 h_1222 h_1223 h_1224 h_1225 h_1226 h_1227 h_1229 hq6 hq7 h_12 h_21 h_37 h_1228 h_1240; omega) | omega) (by first | (clear ha2 hq0 hq1 hq2 hq3 hq4 hq8 h_1 h_2 h_3 h_4 h_5 h_6 h_7 h_8 h_9 h_10 h_11 h_46 h_65 h_66 h_70 h_75 h_1199 h_1210 h_1211 h_1213 h_1214 h_1215 h_1216 h_1217 h_1218 h_1219 h_1220 h_1221 h_1222 h_1223 h_1224 h_1225 h_1226 h_1227 h_1229 hq6 hq7 h_12 h_21 h_37 h_1228 h_1240; omega) | omega)).trans (rfl)) ((wv_tr hU (by first | (clear ha2 hq0 hq1 hq2 hq3 hq4 hq5 hq8 h_1 h_2 h_3 h_4 h_6 h_7 h_8 h_9 h_11 h_46 h_65 h_66 h_70 h_75 h_1199 h_1210 h_1211 h_1213 h_1214 h_1215 h_1216 h_1217 h_1218 h_1219 h_1220 h_1221 h_1222 h_1223 h_1224 h_1225 h_1226 h_1227 h_1229 h_1242 h_1244 hq6 hq7 h_12 h_21 h_37 h_1228 h_1240; omega) | omega) (by first | (clear ha2 hq0 hq1 hq2 hq3 hq4 hq8 h_1 h_2 h_3 h_4 h_5 h_6 h_7 h_8 h_9 h_10 h_11 h_65 h_66 h_70 h_75 h_1199 h_1210 h_1211 h_1213 h_1214 h_1215 h_1216 h_1217 h_1218 h_1219 h_1220 h_1221 h_1222 h_1223 h_1224 h_1225 h_1226 h_1227 h_1229 h_1242 h_1244 hq6 hq7 h_12 h_21 h_37 h_1228 h_1240; omega) | omega) (fun j h1 h2 => ⟨(ln_in (e := e1) (a := (nx F e1 p0)) h1 h2).1, (ln_in (e := e1) (a := (nx F e1 p0)) h1 h2).2.1⟩)).trans (rfl)) (fun c_1245 hI_1246 hF_1247 hz_1248 => ?_))
          refine bk_inl ?_
          refine q_ldc_w_s rfl rfl rfl (by decide) ?_
          refine q_call rfl rfl rfl rfl (s_158_20 ?_)
          refine bk_inl ?_
          refine v_ic_ne_f (t := 94) rfl (by decide) (by first | (clear ha2 hq0 hq1 hq2 hq3 hq4 hq5 hq8 h_1 h_2 h_3 h_4 h_5 h_6 h_7 h_8 h_9 h_10 h_11 h_46 h_65 h_66 h_70 h_75 h_1199 h_1210 h_1211 h_1213 h_1214 h_1215 h_1216 h_1217 h_1218 h_1219 h_1220 h_1221 h_1222 h_1223 h_1224 h_1225 h_1226 h_1227 h_1229 h_1242 hq6 hq7 h_12 h_21 h_37 h_1228 h_1240; omega) | omega) ?_
          refine q_aload_n rfl rfl ?_
          refine q_iconst rfl ?_
          refine v_bip rfl (by decide) ?_
          refine v_cv rfl rfl rfl rfl (by decide) ⟨⟨rfl, rfl⟩, by decide, rfl⟩ (Nat.le_of_ble_eq_true rfl) (Nat.le_of_ble_eq_true rfl) ?_
          refine q_aload_n rfl rfl ?_
          refine q_iload_n rfl rfl ?_
          refine v_cv rfl rfl rfl rfl (by decide) ⟨⟨rfl, rfl⟩, by decide, rfl⟩ (Nat.le_of_ble_eq_true rfl) (Nat.le_of_ble_eq_true rfl) ?_
          refine q_aload_n rfl rfl ?_
          refine v_cv rfl rfl rfl rfl (by decide) ⟨⟨rfl, rfl⟩, by decide, rfl⟩ (Nat.le_of_ble_eq_true rfl) (Nat.le_of_ble_eq_true rfl) ?_
          refine q_aload_n rfl rfl ?_
          have kn_1249 : Hid (c_1230 41 5 = (-1)) := (hF_1232 41 5 (fun h => absurd h.2 (ni rfl))).trans hro_hRt.2.1
          have kn_1250 : Hid (c_1235 41 5 = (-1)) := (hF_1237 41 5 (fun h => absurd h.2 (ni rfl))).trans (hid kn_1249)
          have kn_1251 : Hid (c_1245 41 5 = (-1)) := (hF_1247 41 5 (fun h => absurd h.2 (ni rfl))).trans (hid kn_1250)
          refine v_gi (z := 5) (v := (-1)) rfl rfl rfl (by decide) rfl rfl (hid kn_1251) ?_
          refine q_iconst rfl ?_
          refine v_ic_ne_f (t := 12) rfl (by decide) (by decide) ?_
          refine q_iconst rfl ?_
          refine q_goto (t := 13) rfl (by decide) ?_
          refine v_zret rfl rfl (by decide) ?_
          refine bk_inl ?_
          refine v_if_eq_f (t := 25) rfl (by decide) (by decide) ?_
          refine q_aload_n rfl rfl ?_
          have kn_1252 : Hid (c_1230 41 7 = o0) := (hF_1232 41 7 (fun h => absurd h.2 (ni rfl))).trans (hr_o0)
          have kn_1253 : Hid (c_1235 41 7 = o0) := (hF_1237 41 7 (fun h => absurd h.2 (ni rfl))).trans (hid kn_1252)
          have kn_1254 : Hid (c_1245 41 7 = o0) := (hF_1247 41 7 (fun h => absurd h.2 (ni rfl))).trans (hid kn_1253)
          refine v_gi (z := 7) (v := o0) rfl rfl rfl (by decide) rfl rfl (hid kn_1254) ?_
          refine v_bip rfl (by decide) ?_
          refine v_ic_ne_t (t := 25) rfl (by decide) ⟨by first | (clear ha2 hq0 hq1 hq3 hq4 hq5 hq8 h_1 h_2 h_3 h_4 h_5 h_6 h_7 h_8 h_9 h_10 h_11 h_46 h_65 h_66 h_75 h_1199 h_1210 h_1211 h_1213 h_1214 h_1215 h_1216 h_1217 h_1218 h_1219 h_1220 h_1221 h_1222 h_1223 h_1224 h_1225 h_1226 h_1227 h_1229 h_1242 h_1244 hq6 hq7 h_12 h_21 h_37 h_1228 h_1240; omega) | omega, ⟨(Int.le_trans (by decide) (rg_eq hr_o0 h_8).1), (Int.le_trans (rg_eq hr_o0 h_8).2 (by decide))⟩, by decide, by decide⟩ ?_
          refine q_aload_n rfl rfl ?_
          refine v_cv rfl rfl rfl rfl (by decide) ⟨⟨rfl, rfl⟩, by decide, rfl⟩ (Nat.le_of_ble_eq_true rfl) (Nat.le_of_ble_eq_true rfl) ?_
          refine q_aload_n rfl rfl ?_
          refine v_gi (z := 5) (v := (-1)) rfl rfl rfl (by decide) rfl rfl (hid kn_1251) ?_
          refine q_iconst rfl ?_
          refine v_ic_ne_f (t := 12) rfl (by decide) (by decide) ?_
          refine q_iconst rfl ?_
          refine q_goto (t := 13) rfl (by decide) ?_
          refine v_zret rfl rfl (by decide) ?_
          refine bk_inl ?_
          refine v_if_eq_f (t := 42) rfl (by decide) (by decide) ?_
          refine q_aload_n rfl rfl ?_
          refine q_dup rfl rfl ?_
          refine v_gi (z := 4) (v := (nx F e1 p0)) rfl rfl rfl (by decide) rfl rfl (hz_1248) ?_
          refine q_iload_n rfl rfl ?_
          refine v_iadd (v := (nx F e1 p0) + 5) rfl rfl ?_
          refine v_pi (z := 4) rfl rfl rfl (by decide) rfl rfl rfl (by decide) ?_
          refine q_aload_n rfl rfl ?_
          refine q_dup rfl rfl ?_
          refine v_gi (z := 7) (v := o0) rfl rfl rfl (by decide) rfl rfl ((up_n (by decide)).trans (hid kn_1254)) ?_
          refine q_iconst rfl ?_
          refine v_iadd (v := o0 + 1) rfl rfl ?_
          refine v_pi (z := 7) rfl rfl rfl (by decide) rfl rfl rfl (by decide) ?_
          refine q_vret rfl rfl ?_
          refine bk_inl ?_
          refine q_aload_n rfl rfl ?_
          refine v_bip rfl (by decide) ?_
          have hI_1255 := iw_41_4 (v := (nx F e1 p0) + 5) hI_1246 ⟨by first | exact rgp_l (rg_be h_10 ((rg_eq hg_p0 h_5).1) ((rg_eq hg_e1 h_1).2)).1 (by decide) | omega, by first | exact rgp_h (rg_be h_10 ((rg_eq hg_p0 h_5).1) ((rg_eq hg_e1 h_1).2)).2 (by decide) | omega⟩
          have hI_1256 := iw_41_7 (v := o0 + 1) hI_1255 ⟨by first | exact rgp_l (rg_eq hr_o0 h_8).1 (by decide) | omega, by first | (clear ha2 hq0 hq1 hq3 hq4 hq5 hq8 h_1 h_2 h_3 h_4 h_5 h_6 h_7 h_8 h_9 h_10 h_11 h_46 h_65 h_66 h_75 h_1199 h_1210 h_1211 h_1213 h_1214 h_1215 h_1216 h_1217 h_1218 h_1219 h_1220 h_1221 h_1222 h_1223 h_1224 h_1225 h_1226 h_1227 h_1229 h_1242 h_1244 hq6 hq7 h_12 h_21 h_37 h_1228 h_1240; omega) | omega⟩
          have kn_1257 : Hid (c_62 1 1 = e1) := (hF_64 1 1 (fun q => q.elim (fun h => absurd h.2 (ni rfl)) (fun q => q.elim (fun h => absurd h.2 (ni rfl)) (fun h => absurd h.2 (ni rfl))))).trans (hid kn_39)
          have kn_1258 : Hid (c_1245 41 3 = e1) := (hF_1247 41 3 (fun h => absurd h.2 (ni rfl))).trans (hid kn_1241)
          have h_1259 : c_62 1 4 = 0 := (hz_68)
          have h_1260 : c_62 1 2 = (ln F e1 (nx F e1 p0)) := (hz_67)
          have h_1261 : c_62 1 5 = g0 := (hz_69)
          have h_1262 : (up (up c_1245 41 4 ((nx F e1 p0) + 5)) 41 7 (o0 + 1)) 41 5 = (-1) := ((up_n (by decide)).trans ((up_n (by decide)).trans (hid kn_1251)))
          have h_1263 : (up (up c_1245 41 4 ((nx F e1 p0) + 5)) 41 7 (o0 + 1)) 41 4 = (nx F e1 p0) + 5 := ((up_n (by decide)).trans (up_e rfl))
          have kn_1264 : Hid (c_1230 41 6 = c 41 6) := hF_1232 41 6 (fun h => absurd h.2 (ni rfl))
          have kn_1265 : Hid (c_1235 41 6 = c 41 6) := (hF_1237 41 6 (fun h => absurd h.2 (ni rfl))).trans (hid kn_1264)
          have kn_1266 : Hid (c_1245 41 6 = c 41 6) := (hF_1247 41 6 (fun h => absurd h.2 (ni rfl))).trans (hid kn_1265)
          have h_1267 : (up (up c_1245 41 4 ((nx F e1 p0) + 5)) 41 7 (o0 + 1)) 41 6 = c 41 6 := ((up_n (by decide)).trans ((up_n (by decide)).trans (hid kn_1266)))
          refine v_cv rfl rfl rfl rfl (by decide) ⟨⟨rfl, rfl⟩, by decide, rfl⟩ (Nat.le_of_ble_eq_true rfl) (Nat.le_of_ble_eq_true rfl) (L_11_3 (m := c_62) (e1 := e1) (a9 := (ln F e1 (nx F e1 p0))) (f0 := 0) (F := F) (H := H) hI_1256 hI_63 hI_72 ((hid kn_1257)) (((up_n (by decide)).trans ((up_n (by decide)).trans (hid kn_1258)))) ((hz_67)) ((hz_68)) (fun j => ((hF_64 2 j (fun q => q.elim (fun h => absurd h.1 (nn rfl)) (fun q => q.elim (fun h => absurd h.1 (nn rfl)) (fun h => absurd h.1 (nn rfl))))).trans ((hF_36 2 j (fun h => absurd h.1 (nn rfl))).trans ((hF_26 2 j (fun h => absurd h.1 (nn rfl))).trans (hF_20 2 j (fun h => absurd h.1 (nn rfl)))))).trans (hF j)) (fun j => ((up_c (nn rfl)).trans ((up_c (nn rfl)).trans ((hF_1247 43 j (fun h => absurd h.1 (nn rfl))).trans ((hF_1237 43 j (fun h => absurd h.1 (nn rfl))).trans (hF_1232 43 j (fun h => absurd h.1 (nn rfl))))))).trans (hH j)) hU (rt_i1 ⟨by first | (clear ha2 hq0 hq1 hq2 hq3 hq4 hq5 hq8 h_1 h_2 h_3 h_4 h_5 h_6 h_7 h_8 h_9 h_10 h_11 h_46 h_65 h_66 h_70 h_75 h_1199 h_1210 h_1211 h_1213 h_1214 h_1215 h_1216 h_1217 h_1218 h_1219 h_1220 h_1221 h_1222 h_1223 h_1224 h_1225 h_1226 h_1227 h_1229 h_1242 h_1244 hq6 hq7 h_12 h_21 h_37 h_1228 h_1240; omega) | omega, by first | (clear ha2 hq0 hq1 hq2 hq3 hq4 hq5 hq8 h_1 h_2 h_3 h_4 h_5 h_6 h_7 h_8 h_9 h_10 h_11 h_46 h_65 h_66 h_70 h_75 h_1199 h_1210 h_1211 h_1213 h_1214 h_1215 h_1216 h_1217 h_1218 h_1219 h_1220 h_1221 h_1222 h_1223 h_1224 h_1225 h_1226 h_1227 h_1229 h_1242 h_1244 hq6 hq7 h_12 h_21 h_37 h_1228 h_1240; omega) | omega, by first | (clear ha2 hq0 hq1 hq2 hq3 hq4 hq5 hq8 h_1 h_2 h_3 h_4 h_5 h_6 h_7 h_8 h_9 h_10 h_11 h_46 h_65 h_66 h_70 h_75 h_1199 h_1210 h_1211 h_1213 h_1214 h_1215 h_1216 h_1217 h_1218 h_1219 h_1220 h_1221 h_1222 h_1223 h_1224 h_1225 h_1226 h_1227 h_1229 h_1242 hq6 hq7 h_12 h_21 h_37 h_1228 h_1240; omega) | omega, by first | (clear ha2 hq0 hq2 hq3 hq4 hq5 hq8 h_1 h_2 h_3 h_4 h_5 h_6 h_7 h_8 h_9 h_10 h_11 h_46 h_65 h_66 h_70 h_75 h_1199 h_1210 h_1211 h_1213 h_1214 h_1215 h_1216 h_1217 h_1218 h_1219 h_1220 h_1221 h_1222 h_1223 h_1224 h_1225 h_1226 h_1227 h_1229 h_1242 h_1244 hq6 hq7 h_12 h_21 h_37 h_1228 h_1240; omega) | omega⟩) hG_74 (fun c_1268 hI_1269 hF_1270 hR_1272 h_1273 h_1274 => ?_))
          refine bk_inl ?_
          have h_1275 := ir_1_2 hI_72
          refine q_aload_n rfl rfl ?_
          have h_1276 := ir_41_5 hI_1269
          have h_1277 := ir_41_4 hI_1269
          have h_1278 := ir_41_6 hI_1269
          have h_1279 := rt_bad hR_1272 (by omega)
          have hrb_hR_1272 := rt_bad hR_1272 (by omega)
          have h_1280 : ¬ c_1268 41 5 = -1 := by rw [show c_1268 41 5 = c_71 1 5 from hrb_hR_1272.2.1]; omega
          refine v_cv rfl rfl rfl rfl (by decide) ⟨⟨rfl, rfl⟩, by decide, rfl⟩ (Nat.le_of_ble_eq_true rfl) (Nat.le_of_ble_eq_true rfl) (n_174 hI_1269 (by omega) ?_)
          refine bk_inl ?_
          refine q_aload_n rfl rfl ?_
          refine v_bip rfl (by decide) ?_
          refine v_cv rfl rfl rfl rfl (by decide) ⟨⟨rfl, rfl⟩, by decide, rfl⟩ (Nat.le_of_ble_eq_true rfl) (Nat.le_of_ble_eq_true rfl) ?_
          refine q_aload_n rfl rfl ?_
          refine v_cv rfl rfl rfl rfl (by decide) ⟨⟨rfl, rfl⟩, by decide, rfl⟩ (Nat.le_of_ble_eq_true rfl) (Nat.le_of_ble_eq_true rfl) ?_
          refine q_aload_n rfl rfl ?_
          refine v_gi (z := 5) (v := c_71 1 5) rfl rfl rfl (by decide) rfl rfl hrb_hR_1272.2.1 ?_
          refine q_iconst rfl ?_
          refine v_ic_ne_t (t := 12) rfl (by decide) ⟨by first | (clear ha2 hq0 hq1 hq2 hq3 hq4 hq5 hq8 h_1 h_2 h_3 h_4 h_5 h_6 h_7 h_8 h_9 h_10 h_11 h_46 h_65 h_66 h_70 h_75 h_1199 h_1210 h_1211 h_1213 h_1214 h_1215 h_1216 h_1217 h_1218 h_1219 h_1220 h_1221 h_1222 h_1223 h_1224 h_1225 h_1226 h_1227 h_1229 h_1242 h_1244 h_1275 h_1276 h_1277 h_1278 hq6 hq7 h_12 h_21 h_37 h_1228 h_1240 h_1273 h_1274; omega) | omega, ⟨(Int.le_trans (by decide) h_1199.1), (Int.le_trans h_1199.2 (by decide))⟩, by decide, by decide⟩ ?_
          refine q_iconst rfl ?_
          refine v_zret rfl rfl (by decide) ?_
          refine bk_inl ?_
          refine v_if_eq_t (t := 24) rfl (by decide) (by decide) ?_
          refine q_aload_n rfl rfl ?_
          refine v_cv rfl rfl rfl rfl (by decide) ⟨⟨rfl, rfl⟩, by decide, rfl⟩ (Nat.le_of_ble_eq_true rfl) (Nat.le_of_ble_eq_true rfl) ?_
          refine q_aload_n rfl rfl ?_
          refine v_gi (z := 5) (v := c_71 1 5) rfl rfl rfl (by decide) rfl rfl hrb_hR_1272.2.1 ?_
          refine q_iconst rfl ?_
          refine v_ic_ne_t (t := 12) rfl (by decide) ⟨by first | (clear ha2 hq0 hq1 hq2 hq3 hq4 hq5 hq8 h_1 h_2 h_3 h_4 h_5 h_6 h_7 h_8 h_9 h_10 h_11 h_46 h_65 h_66 h_70 h_75 h_1199 h_1210 h_1211 h_1213 h_1214 h_1215 h_1216 h_1217 h_1218 h_1219 h_1220 h_1221 h_1222 h_1223 h_1224 h_1225 h_1226 h_1227 h_1229 h_1242 h_1244 h_1275 h_1276 h_1277 h_1278 hq6 hq7 h_12 h_21 h_37 h_1228 h_1240 h_1273 h_1274; omega) | omega, ⟨(Int.le_trans (by decide) h_1199.1), (Int.le_trans h_1199.2 (by decide))⟩, by decide, by decide⟩ ?_
          refine q_iconst rfl ?_
          refine v_zret rfl rfl (by decide) ?_
          refine bk_inl ?_
          refine v_if_eq_t (t := 41) rfl (by decide) (by decide) ?_
          refine q_vret rfl rfl ?_
          refine bk_inl ?_
          refine q_aload_n rfl rfl ?_
          have h_1281 : ¬ c_1268 41 5 = -1 := by rw [show c_1268 41 5 = c_71 1 5 from hrb_hR_1272.2.1]; omega
          refine v_cv rfl rfl rfl rfl (by decide) ⟨⟨rfl, rfl⟩, by decide, rfl⟩ (Nat.le_of_ble_eq_true rfl) (Nat.le_of_ble_eq_true rfl) (n_174 hI_1269 (by omega) ?_)
          refine bk_inl ?_
          refine q_aload_n rfl rfl ?_
          refine v_bip rfl (by decide) ?_
          refine v_cv rfl rfl rfl rfl (by decide) ⟨⟨rfl, rfl⟩, by decide, rfl⟩ (Nat.le_of_ble_eq_true rfl) (Nat.le_of_ble_eq_true rfl) ?_
          refine q_aload_n rfl rfl ?_
          refine v_cv rfl rfl rfl rfl (by decide) ⟨⟨rfl, rfl⟩, by decide, rfl⟩ (Nat.le_of_ble_eq_true rfl) (Nat.le_of_ble_eq_true rfl) ?_
          refine q_aload_n rfl rfl ?_
          refine v_gi (z := 5) (v := c_71 1 5) rfl rfl rfl (by decide) rfl rfl hrb_hR_1272.2.1 ?_
          refine q_iconst rfl ?_
          refine v_ic_ne_t (t := 12) rfl (by decide) ⟨by first | (clear ha2 hq0 hq1 hq2 hq3 hq4 hq5 hq8 h_1 h_2 h_3 h_4 h_5 h_6 h_7 h_8 h_9 h_10 h_11 h_46 h_65 h_66 h_70 h_75 h_1199 h_1210 h_1211 h_1213 h_1214 h_1215 h_1216 h_1217 h_1218 h_1219 h_1220 h_1221 h_1222 h_1223 h_1224 h_1225 h_1226 h_1227 h_1229 h_1242 h_1244 h_1275 h_1276 h_1277 h_1278 hq6 hq7 h_12 h_21 h_37 h_1228 h_1240 h_1273 h_1274; omega) | omega, ⟨(Int.le_trans (by decide) h_1199.1), (Int.le_trans h_1199.2 (by decide))⟩, by decide, by decide⟩ ?_
          refine q_iconst rfl ?_
          refine v_zret rfl rfl (by decide) ?_
          refine bk_inl ?_
          refine v_if_eq_t (t := 24) rfl (by decide) (by decide) ?_
          refine q_aload_n rfl rfl ?_
          refine v_cv rfl rfl rfl rfl (by decide) ⟨⟨rfl, rfl⟩, by decide, rfl⟩ (Nat.le_of_ble_eq_true rfl) (Nat.le_of_ble_eq_true rfl) ?_
          refine q_aload_n rfl rfl ?_
          refine v_gi (z := 5) (v := c_71 1 5) rfl rfl rfl (by decide) rfl rfl hrb_hR_1272.2.1 ?_
          refine q_iconst rfl ?_
          refine v_ic_ne_t (t := 12) rfl (by decide) ⟨by first | (clear ha2 hq0 hq1 hq2 hq3 hq4 hq5 hq8 h_1 h_2 h_3 h_4 h_5 h_6 h_7 h_8 h_9 h_10 h_11 h_46 h_65 h_66 h_70 h_75 h_1199 h_1210 h_1211 h_1213 h_1214 h_1215 h_1216 h_1217 h_1218 h_1219 h_1220 h_1221 h_1222 h_1223 h_1224 h_1225 h_1226 h_1227 h_1229 h_1242 h_1244 h_1275 h_1276 h_1277 h_1278 hq6 hq7 h_12 h_21 h_37 h_1228 h_1240 h_1273 h_1274; omega) | omega, ⟨(Int.le_trans (by decide) h_1199.1), (Int.le_trans h_1199.2 (by decide))⟩, by decide, by decide⟩ ?_
          refine q_iconst rfl ?_
          refine v_zret rfl rfl (by decide) ?_
          refine bk_inl ?_
          refine v_if_eq_t (t := 41) rfl (by decide) (by decide) ?_
          refine q_vret rfl rfl ?_
          refine bk_inl ?_
          refine q_aload_n rfl rfl ?_
          refine q_dup rfl rfl ?_
          have kn_1282 : Hid (c_1268 41 7 = o0 + 1) := (hF_1270 41 7 (fun q => q.elim (fun h => absurd h.2 (ni rfl)) (fun q => q.elim (fun h => absurd h.2 (ni rfl)) (fun h => absurd h.2 (ni rfl))))).trans (up_e rfl)
          refine v_gi (z := 7) (v := o0 + 1) rfl rfl rfl (by decide) rfl rfl (hid kn_1282) ?_
          refine q_iconst rfl ?_
          refine v_isub (v := o0) rfl (by first | (clear ha2 hq0 hq1 hq2 hq3 hq4 hq5 hq8 h_1 h_2 h_3 h_4 h_5 h_6 h_7 h_8 h_9 h_10 h_11 h_46 h_65 h_66 h_70 h_75 h_1199 h_1210 h_1211 h_1213 h_1214 h_1215 h_1216 h_1217 h_1218 h_1219 h_1220 h_1221 h_1222 h_1223 h_1224 h_1225 h_1226 h_1227 h_1229 h_1242 h_1244 h_1275 h_1276 h_1277 h_1278 h_1279 hq6 hq7 h_12 h_21 h_37 h_1228 h_1240 h_1273 h_1274; omega) | omega) ?_
          refine v_pi (z := 7) rfl rfl rfl (by decide) rfl rfl rfl (by decide) ?_
          refine q_aload_n rfl rfl ?_
          refine q_iload_n rfl rfl ?_
          refine q_iconst rfl ?_
          refine v_cv rfl rfl rfl rfl (by decide) ⟨⟨rfl, rfl⟩, by decide, rfl⟩ (Nat.le_of_ble_eq_true rfl) (Nat.le_of_ble_eq_true rfl) ?_
          refine q_aload_n rfl rfl ?_
          refine v_cv rfl rfl rfl rfl (by decide) ⟨⟨rfl, rfl⟩, by decide, rfl⟩ (Nat.le_of_ble_eq_true rfl) (Nat.le_of_ble_eq_true rfl) ?_
          refine q_aload_n rfl rfl ?_
          refine v_gi (z := 5) (v := c_71 1 5) rfl rfl rfl (by decide) rfl rfl (((up_n (by decide))).trans (hrb_hR_1272.2.1)) ?_
          refine q_iconst rfl ?_
          refine v_ic_ne_t (t := 12) rfl (by decide) ⟨by first | (clear ha2 hq0 hq1 hq2 hq3 hq4 hq5 hq8 h_1 h_2 h_3 h_4 h_5 h_6 h_7 h_8 h_9 h_10 h_11 h_46 h_65 h_66 h_70 h_75 h_1199 h_1210 h_1211 h_1213 h_1214 h_1215 h_1216 h_1217 h_1218 h_1219 h_1220 h_1221 h_1222 h_1223 h_1224 h_1225 h_1226 h_1227 h_1229 h_1242 h_1244 h_1275 h_1276 h_1277 h_1278 hq6 hq7 h_12 h_21 h_37 h_1228 h_1240 h_1273 h_1274; omega) | omega, ⟨(Int.le_trans (by decide) h_1199.1), (Int.le_trans h_1199.2 (by decide))⟩, by decide, by decide⟩ ?_
          refine q_iconst rfl ?_
          refine v_zret rfl rfl (by decide) ?_
          refine bk_inl ?_
          refine v_if_ne_f (t := 8) rfl (by decide) (by decide) ?_
          refine q_vret rfl rfl ?_
          refine bk_inl ?_
          refine q_vret rfl rfl ?_
          refine bk_inl ?_
          refine q_goto (t := 154) rfl (by decide) ?_
          refine q_vret rfl rfl ?_
          have hI_1283 := iw_41_7 (v := o0) hI_1269 ⟨(rg_eq hr_o0 h_8).1, (rg_eq hr_o0 h_8).2⟩
          have h_1284 : (up c_1268 41 7 o0) 41 5 = c_71 1 5 := (((up_n (by decide))).trans (hrb_hR_1272.2.1))
          have h_1285 : (up c_1268 41 7 o0) 41 4 = c_1268 41 4 := (up_n (by decide))
          have h_1286 : (up c_1268 41 7 o0) 41 6 = c_71 1 4 := (((up_n (by decide))).trans (hrb_hR_1272.2.2.2))
          have kn_1287 : Hid (c_1230 41 29 = n0) := (hF_1232 41 29 (fun h => absurd h.2 (ni rfl))).trans (hr_n0)
          have kn_1288 : Hid (c_1235 41 29 = n0) := (hF_1237 41 29 (fun h => absurd h.2 (ni rfl))).trans (hid kn_1287)
          have kn_1289 : Hid (c_1245 41 29 = n0) := (hF_1247 41 29 (fun h => absurd h.2 (ni rfl))).trans (hid kn_1288)
          have kn_1290 : Hid (c_1268 41 29 = n0) := (hF_1270 41 29 (fun q => q.elim (fun h => absurd h.2 (ni rfl)) (fun q => q.elim (fun h => absurd h.2 (ni rfl)) (fun h => absurd h.2 (ni rfl))))).trans ((up_n (by decide)).trans ((up_n (by decide)).trans (hid kn_1289)))
          have h_1291 : (up c_1268 41 7 o0) 41 29 = n0 := ((up_n (by decide)).trans (hid kn_1290))
          have h_1292 : (up c_1268 41 7 o0) 41 7 = o0 := (up_e rfl)
          have h_1293 : (up c_1268 41 7 o0) 41 29 = n0 := ((up_n (by decide)).trans (hid kn_1290))
          exact K (up c_1268 41 7 o0)  hI_1283 (fun a j hm => (up_b (Decidable.or_iff_not_imp_left.mpr (fun h1 h2 => hm (Or.inr (Or.inr (Or.inr (Or.inl ⟨Decidable.not_not.mp h1, h2⟩))))))).trans ((hF_1270 a j (fun q => q.elim (fun h => hm (Or.inl h)) (fun q => q.elim (fun h => hm (Or.inr (Or.inl h))) (fun h => hm (Or.inr (Or.inr (Or.inl h))))))).trans ((up_b (Decidable.or_iff_not_imp_left.mpr (fun h1 h2 => hm (Or.inr (Or.inr (Or.inr (Or.inl ⟨Decidable.not_not.mp h1, h2⟩))))))).trans ((up_b (Decidable.or_iff_not_imp_left.mpr (fun h1 h2 => hm (Or.inl ⟨Decidable.not_not.mp h1, h2⟩)))).trans ((hF_1247 a j (fun h => hm (Or.inl h))).trans ((hF_1237 a j (fun h => hm (Or.inl h))).trans (hF_1232 a j (fun h => hm (Or.inl h))))))))) (rt_i2 ⟨⟨by first | (clear ha2 hq0 hq1 hq2 hq3 hq4 hq5 hq8 h_1 h_2 h_3 h_4 h_5 h_6 h_7 h_8 h_9 h_10 h_11 h_46 h_65 h_66 h_70 h_75 h_1199 h_1210 h_1211 h_1213 h_1215 h_1216 h_1217 h_1218 h_1219 h_1220 h_1221 h_1222 h_1223 h_1224 h_1225 h_1226 h_1227 h_1229 h_1242 h_1244 h_1275 h_1276 h_1277 h_1278 hq6 hq7 h_12 h_21 h_37 h_1228 h_1240 h_1273 h_1274; omega) | omega, by first | (clear ha2 hq0 hq1 hq2 hq3 hq4 hq5 hq8 h_1 h_2 h_3 h_4 h_5 h_6 h_7 h_8 h_9 h_10 h_11 h_46 h_65 h_66 h_70 h_75 h_1199 h_1210 h_1211 h_1214 h_1215 h_1216 h_1217 h_1218 h_1219 h_1220 h_1221 h_1222 h_1223 h_1224 h_1225 h_1226 h_1227 h_1229 h_1242 h_1244 h_1275 h_1276 h_1277 h_1278 h_1279 hq6 hq7 h_12 h_21 h_37 h_1228 h_1240 h_1273 h_1274; omega) | omega⟩, by first | (clear ha2 hq0 hq1 hq2 hq3 hq4 hq5 hq8 h_1 h_2 h_3 h_4 h_5 h_6 h_7 h_8 h_9 h_10 h_11 h_46 h_65 h_66 h_70 h_75 h_1199 h_1210 h_1211 h_1213 h_1214 h_1215 h_1216 h_1217 h_1218 h_1220 h_1221 h_1222 h_1223 h_1224 h_1225 h_1226 h_1227 h_1229 h_1242 h_1244 h_1275 h_1276 h_1277 h_1278 h_1279 hq6 hq7 h_12 h_21 h_37 h_1228 h_1240 h_1273 h_1274; omega) | omega, by first | (clear ha2 hq0 hq1 hq2 hq3 hq4 hq5 hq8 h_1 h_2 h_3 h_4 h_5 h_6 h_7 h_8 h_9 h_10 h_11 h_46 h_65 h_66 h_70 h_75 h_1199 h_1210 h_1211 h_1213 h_1214 h_1215 h_1216 h_1217 h_1218 h_1220 h_1221 h_1222 h_1223 h_1224 h_1225 h_1226 h_1227 h_1229 h_1242 h_1244 h_1275 h_1276 h_1277 h_1278 hq6 hq7 h_12 h_21 h_37 h_1228 h_1240 h_1273 h_1274; omega) | omega, by first | (clear ha2 hq0 hq1 hq2 hq3 hq4 hq5 hq8 h_1 h_2 h_3 h_4 h_5 h_6 h_7 h_8 h_9 h_10 h_11 h_46 h_65 h_66 h_70 h_75 h_1199 h_1210 h_1211 h_1213 h_1215 h_1216 h_1217 h_1218 h_1219 h_1220 h_1221 h_1222 h_1223 h_1224 h_1225 h_1226 h_1227 h_1229 h_1242 h_1244 h_1275 h_1276 h_1277 h_1278 h_1279 hq6 hq7 h_12 h_21 h_37 h_1228 h_1240 h_1273 h_1274; omega) | omega⟩) (Or.inr (Or.inl (by first | (clear ha2 hq0 hq1 hq2 hq3 hq4 hq5 hq8 h_1 h_2 h_3 h_4 h_5 h_6 h_7 h_8 h_9 h_10 h_11 h_46 h_65 h_66 h_70 h_75 h_1199 h_1210 h_1211 h_1213 h_1215 h_1216 h_1217 h_1218 h_1219 h_1220 h_1221 h_1222 h_1223 h_1224 h_1225 h_1226 h_1227 h_1229 h_1242 h_1244 h_1275 h_1276 h_1277 h_1278 hq6 hq7 h_12 h_21 h_37 h_1228 h_1240 h_1273 h_1274; omega) | omega))) (by first | (clear ha2 hq0 hq1 hq3 hq4 hq5 hq8 h_1 h_2 h_3 h_4 h_5 h_6 h_7 h_8 h_9 h_10 h_11 h_46 h_65 h_66 h_70 h_75 h_1199 h_1210 h_1211 h_1213 h_1214 h_1215 h_1216 h_1217 h_1218 h_1219 h_1220 h_1221 h_1222 h_1223 h_1224 h_1225 h_1226 h_1227 h_1229 h_1242 h_1244 h_1275 h_1276 h_1277 h_1278 h_1279 hq6 hq7 h_12 h_21 h_37 h_1228 h_1240 h_1273 h_1274; omega) | omega) (fun hz => absurd hz (by omega))
        · refine v_ic_ge_f (t := 32) rfl (by decide) ⟨(Int.le_trans (by decide) h_1210.1), (Int.not_le.mp h_1211), by decide⟩ ?_
          refine q_aload_n rfl rfl ?_
          refine v_gr (t := (A + 9)) rfl rfl (ck_p7 hA) (a68 hA rfl) rfl ?_
          refine q_aload_n rfl rfl ?_
          refine v_gi (z := 5) (v := c_1205 (A + 7) 5) rfl rfl (ck_p7 hA) (a68 hA rfl) rfl rfl rfl ?_
          refine q_iload_n rfl rfl ?_
          refine v_is rfl (ck_p9 hA) (a68 hA rfl) (by decide) (by omega) ?_
          refine q_aload_n rfl rfl ?_
          refine q_dup rfl rfl ?_
          refine v_gi (z := 5) (v := c_1205 (A + 7) 5) rfl rfl (ck_p7 hA) (a68 hA rfl) rfl rfl (up_c (pp rfl)) ?_
          refine q_iconst rfl ?_
          refine v_iadd (v := c_1205 (A + 7) 5 + 1) rfl rfl ?_
          refine v_pi (z := 5) rfl rfl (ck_p7 hA) (a68 hA rfl) rfl rfl rfl (by decide) ?_
          refine q_vret rfl rfl ?_
          refine bk_inl ?_
          refine q_vret rfl rfl ?_
          have hI_1294 := iw_lg (j := c_1205 (A + 7) 5) (v := (wd1_0 F (nx F e1 p0) (ln F e1 (nx F e1 p0))) + 1997) hI_1206 (lgp (k := 9) hA (by decide)) ⟨by omega, by omega⟩ (by omega)
          have hI_1295 := iw_p7_5 (v := c_1205 (A + 7) 5 + 1) hI_1294 hA ⟨by first | exact rgp_l h_1210.1 (by decide) | omega, by first | (clear ha2 hq0 hq1 hq2 hq3 hq4 hq5 hq8 h_1 h_2 h_3 h_4 h_5 h_6 h_7 h_8 h_9 h_10 h_11 h_46 h_65 h_66 h_70 h_75 h_1199 h_1210 hq6 hq7 h_12 h_21 h_37; omega) | omega⟩
          intro hE_1296
          have hW : Wd P Q P P (up (up c_1205 (A + 9) (c_1205 (A + 7) 5) ((wd1_0 F (nx F e1 p0) (ln F e1 (nx F e1 p0))) + 1997)) (A + 7) 5 (c_1205 (A + 7) 5 + 1)) = Wd P Q P P m9 := (Prod.mk.inj (Prod.mk.inj hE_1296).2).1
          have h_1297 := ir_1_4 hJ9
          have h_1298 : m9 1 4 = c_71 1 4 := wd_fv (z := 4) 4 rfl hW rfl rfl rfl rfl (by decide) ((up_c (pn hA rfl rfl)).trans ((up_c (pn hA rfl rfl)).trans (hz_1208))) ⟨(Int.le_trans (by decide) h_75.1), (Int.le_trans h_75.2 (by decide))⟩ ⟨(Int.le_trans (by decide) h_1297.1), (Int.le_trans h_1297.2 (by decide))⟩
          have h_1299 := ir_1_2 hI_1206
          have h_1300 := ir_1_2 hJ9
          have h_1301 : m9 1 2 = c_1205 1 2 := wd_fv (z := 2) 2 rfl hW rfl rfl rfl rfl (by decide) ((up_c (pn hA rfl rfl)).trans (up_c (pn hA rfl rfl))) ⟨(Int.le_trans (by decide) h_1299.1), (Int.le_trans h_1299.2 (by decide))⟩ ⟨(Int.le_trans (by decide) h_1300.1), (Int.le_trans h_1300.2 (by decide))⟩
          have h_1302 := ir_1_5 hJ9
          have h_1303 : m9 1 5 = c_71 1 5 := wd_fv (z := 5) 5 rfl hW rfl rfl rfl rfl (by decide) ((up_c (pn hA rfl rfl)).trans ((up_c (pn hA rfl rfl)).trans (hz_1209))) ⟨(Int.le_trans (by decide) h_1199.1), (Int.le_trans h_1199.2 (by decide))⟩ ⟨(Int.le_trans (by decide) h_1302.1), (Int.le_trans h_1302.2 (by decide))⟩
          have h_1304 := ir_p7_5 hJ9 hA
          have h_1305 : m9 (A + 7) 5 = c_1205 (A + 7) 5 + 1 := wd_fv (z := 5) 5 rfl hW (ck_p7 hA) (ck_p7 hA) rfl rfl (by omega) (up_e rfl) ⟨by first | exact rgp_l h_1210.1 (by decide) | omega, by first | exact rgp_h h_1210.2 (by decide) | omega⟩ ⟨(Int.le_trans (by decide) h_1304.1), (Int.le_trans h_1304.2 (by decide))⟩
          refine q_aload_n rfl rfl ?_
          refine v_cv rfl rfl rfl rfl (by decide) ⟨⟨rfl, rfl⟩, by decide, rfl⟩ (Nat.le_of_ble_eq_true rfl) (Nat.le_of_ble_eq_true rfl) ?_
          refine q_aload_n rfl rfl ?_
          have h_1306 := ir_41_5 hI
          have h_1307 := ir_41_4 hI
          have h_1308 := ir_41_6 hI
          have h_1309 := rt_ok hRt (by omega)
          have hro_hRt := rt_ok hRt (by omega)
          refine v_gi (z := 5) (v := (-1)) rfl rfl rfl (by decide) rfl rfl hro_hRt.2.1 ?_
          refine q_iconst rfl ?_
          refine v_ic_ne_f (t := 12) rfl (by decide) (by decide) ?_
          refine q_iconst rfl ?_
          refine q_goto (t := 13) rfl (by decide) ?_
          refine v_zret rfl rfl (by decide) ?_
          refine bk_inl ?_
          refine v_if_ne_t (t := 8) rfl (by decide) (by decide) ?_
          refine q_aload_n rfl rfl ?_
          have h_1310 : -2147483648 ≤ (H (nx F e1 p0)) ∧ (H (nx F e1 p0)) ≤ 2147483647 := by rw [← hH (nx F e1 p0)]; exact ir_43 hI (nx F e1 p0)
          have h_1311 := hU (nx F e1 p0) (by omega) (by omega)
          have h_1312 := hb_or (b := H) (e := e1) (r := (nx F e1 p0))
          have h_1313 := hb_bd (b := H) (e := e1) (r := (nx F e1 p0)) (lo := -2147483648) (hi := 2147483647) h_1310 (by decide)
          refine v_cv rfl rfl rfl rfl (by decide) ⟨⟨rfl, rfl⟩, by decide, rfl⟩ (Nat.le_of_ble_eq_true rfl) (Nat.le_of_ble_eq_true rfl) (f_154 (e1 := e1) (a9 := p0) (B := H) (r8 := (nx F e1 p0)) (r := (hb H e1 (nx F e1 p0))) hI ((hr_e1)) (((hro_hRt.2.2.1).trans ((hg_p0)))) (fun j => hH j) ((nx_tr hU (by first | (clear ha2 hq0 hq1 hq2 hq3 hq4 hq5 hq8 h_1 h_2 h_3 h_4 h_6 h_7 h_8 h_9 h_10 h_11 h_46 h_65 h_66 h_70 h_75 h_1199 h_1210 h_1297 h_1298 h_1299 h_1300 h_1301 h_1302 h_1303 h_1304 h_1305 h_1306 h_1307 h_1308 h_1309 hq6 hq7 h_12 h_21 h_37; omega) | omega) (by first | (clear ha2 hq0 hq1 hq2 hq3 hq4 hq8 h_1 h_2 h_3 h_4 h_5 h_6 h_7 h_8 h_9 h_10 h_11 h_46 h_65 h_66 h_70 h_75 h_1199 h_1210 h_1297 h_1298 h_1299 h_1300 h_1301 h_1302 h_1303 h_1304 h_1305 h_1306 h_1307 h_1308 h_1309 hq6 hq7 h_12 h_21 h_37; omega) | omega)).trans (rfl)) rfl (fun c_1314 hI_1315 hF_1316 h_1317 => ?_))
          refine bk_inl ?_
          refine v_bip rfl (by decide) ?_
          refine v_ic_ne_t (t := 45) rfl (by decide) ⟨by first | (clear ha2 hq0 hq1 hq2 hq3 hq8 h_3 h_4 h_5 h_6 h_7 h_8 h_9 h_11 h_65 h_66 h_70 h_75 h_1199 h_1210 h_1297 h_1298 h_1299 h_1300 h_1301 h_1302 h_1303 h_1304 h_1305 h_1306 h_1307 h_1308 h_1309; omega) | omega, ⟨h_1313.1, h_1313.2⟩, by decide, by decide⟩ ?_
          refine q_aload_n rfl rfl ?_
          have kn_1318 : Hid (c_1314 41 3 = e1) := (hF_1316 41 3 (fun h => absurd h.2 (ni rfl))).trans (hr_e1)
          refine v_cv rfl rfl rfl rfl (by decide) ⟨⟨rfl, rfl⟩, by decide, rfl⟩ (Nat.le_of_ble_eq_true rfl) (Nat.le_of_ble_eq_true rfl) (f_154 (e1 := e1) (a9 := (nx F e1 p0)) (B := H) (r8 := (nx F e1 p0)) (r := (hb H e1 (nx F e1 p0))) hI_1315 ((hid kn_1318)) ((h_1317)) (fun j => (hF_1316 43 j (fun h => absurd h.1 (nn rfl))).trans (hH j)) ((nx_tr hU (by first | (clear ha2 hq0 hq1 hq2 hq3 hq4 hq5 hq8 h_1 h_2 h_3 h_4 h_6 h_7 h_8 h_9 h_11 h_46 h_65 h_66 h_70 h_75 h_1199 h_1210 h_1297 h_1298 h_1299 h_1300 h_1301 h_1302 h_1303 h_1304 h_1305 h_1306 h_1307 h_1308 h_1309 h_1310 h_1311 h_1313 hq6 hq7 h_12 h_21 h_37 h_1312; omega) | omega) (by first | (clear ha2 hq0 hq1 hq2 hq3 hq4 hq8 h_1 h_2 h_3 h_4 h_5 h_6 h_7 h_8 h_9 h_10 h_11 h_46 h_65 h_66 h_70 h_75 h_1199 h_1210 h_1297 h_1298 h_1299 h_1300 h_1301 h_1302 h_1303 h_1304 h_1305 h_1306 h_1307 h_1308 h_1309 h_1310 h_1311 h_1313 hq6 hq7 h_12 h_21 h_37 h_1312; omega) | omega)).trans ((nx_z (by omega)))) rfl (fun c_1319 hI_1320 hF_1321 h_1322 => ?_))
          refine bk_inl ?_
          refine q_call rfl rfl rfl rfl (f_156 (a0 := (hb H e1 (nx F e1 p0))) hI_1320 (show (-2147483648) ≤ (hb H e1 (nx F e1 p0)) ∧ (hb H e1 (nx F e1 p0)) ≤ 2147483647 from h_1313) (fun y_1323 hy_1323 h_1324 => ?_))
          refine bk_inl ?_
          refine v_if_eq_t (t := 71) rfl (by decide) (by first | (clear ha2 hq0 hq1 hq2 hq3 hq8 h_3 h_4 h_5 h_6 h_7 h_8 h_9 h_11 h_65 h_66 h_70 h_75 h_1199 h_1210 h_1297 h_1298 h_1299 h_1300 h_1301 h_1302 h_1303 h_1304 h_1305 h_1306 h_1307 h_1308 h_1309; omega) | omega) ?_
          refine q_aload_n rfl rfl ?_
          have kn_1325 : Hid (c_1319 41 3 = e1) := (hF_1321 41 3 (fun h => absurd h.2 (ni rfl))).trans (hid kn_1318)
          have h_1326 := wv_bd (b := F) (r := (nx F e1 p0)) (l := (ln F e1 (nx F e1 p0))) (fun j h1 h2 => ⟨(ln_in (e := e1) (a := (nx F e1 p0)) h1 h2).1, (ln_in (e := e1) (a := (nx F e1 p0)) h1 h2).2.1⟩)
          have h_1327 := wr1_8 (b := F) (r := (nx F e1 p0)) (l := (ln F e1 (nx F e1 p0))) (by omega) (fun j h1 h2 => ⟨(ln_in (e := e1) (a := (nx F e1 p0)) h1 h2).1, (ln_in (e := e1) (a := (nx F e1 p0)) h1 h2).2.1⟩) (by omega)
          have h_1328 : (wv F (nx F e1 p0) (ln F e1 (nx F e1 p0))) = 12748404 → (ln F e1 (nx F e1 p0)) - (nx F e1 p0) = 5 := wl_least (by omega) (fun j h1 h2 => ⟨(ln_in (e := e1) (a := (nx F e1 p0)) h1 h2).1, (ln_in (e := e1) (a := (nx F e1 p0)) h1 h2).2.1⟩)
          refine v_cv rfl rfl rfl rfl (by decide) ⟨⟨rfl, rfl⟩, by decide, rfl⟩ (Nat.le_of_ble_eq_true rfl) (Nat.le_of_ble_eq_true rfl) (f_157 (e1 := e1) (a9 := (nx F e1 p0)) (B := H) (r8 := (nx F e1 p0)) (L8 := (ln F e1 (nx F e1 p0))) (W8 := (wv F (nx F e1 p0) (ln F e1 (nx F e1 p0)))) hI_1320 ((hid kn_1325)) ((h_1322)) (fun j => ((hF_1321 43 j (fun h => absurd h.1 (nn rfl))).trans (hF_1316 43 j (fun h => absurd h.1 (nn rfl)))).trans (hH j)) ((nx_tr hU (by first | (clear ha2 hq0 hq1 hq2 hq3 hq4 hq5 hq8 h_1 h_2 h_3 h_4 h_6 h_7 h_8 h_9 h_11 h_46 h_65 h_66 h_70 h_75 h_1199 h_1210 h_1297 h_1298 h_1299 h_1300 h_1301 h_1302 h_1303 h_1304 h_1305 h_1306 h_1307 h_1308 h_1309 h_1310 h_1311 h_1313 hq6 hq7 h_12 h_21 h_37 h_1312 h_1324; omega) | omega) (by first | (clear ha2 hq0 hq1 hq2 hq3 hq4 hq8 h_1 h_2 h_3 h_4 h_5 h_6 h_7 h_8 h_9 h_10 h_11 h_46 h_65 h_66 h_70 h_75 h_1199 h_1210 h_1297 h_1298 h_1299 h_1300 h_1301 h_1302 h_1303 h_1304 h_1305 h_1306 h_1307 h_1308 h_1309 h_1310 h_1311 h_1313 hq6 hq7 h_12 h_21 h_37 h_1312 h_1324; omega) | omega)).trans ((nx_z (by omega)))) ((ln_tr hU (by first | (clear ha2 hq0 hq1 hq2 hq3 hq4 hq5 hq8 h_1 h_2 h_3 h_4 h_6 h_7 h_8 h_9 h_11 h_46 h_65 h_66 h_70 h_75 h_1199 h_1210 h_1297 h_1298 h_1299 h_1300 h_1301 h_1302 h_1303 h_1304 h_1305 h_1306 h_1307 h_1308 h_1309 h_1310 h_1311 h_1313 hq6 hq7 h_12 h_21 h_37 h_1312 h_1324; omega) | omega) (by first | (clear ha2 hq0 hq1 hq2 hq3 hq4 hq8 h_1 h_2 h_3 h_4 h_5 h_6 h_7 h_8 h_9 h_10 h_11 h_46 h_65 h_66 h_70 h_75 h_1199 h_1210 h_1297 h_1298 h_1299 h_1300 h_1301 h_1302 h_1303 h_1304 h_1305 h_1306 h_1307 h_1308 h_1309 h_1310 h_1311 h_1313 hq6 hq7 h_12 h_21 h_37 h_1312 h_1324; omega) | omega)).trans (rfl)) ((wv_tr hU (by first | (clear ha2 hq0 hq1 hq2 hq3 hq4 hq5 hq8 h_1 h_2 h_3 h_4 h_6 h_7 h_8 h_9 h_11 h_46 h_65 h_66 h_70 h_75 h_1199 h_1210 h_1297 h_1298 h_1299 h_1300 h_1301 h_1302 h_1303 h_1304 h_1305 h_1306 h_1307 h_1308 h_1309 h_1310 h_1311 h_1313 h_1326 h_1328 hq6 hq7 h_12 h_21 h_37 h_1312 h_1324; omega) | omega) (by first | (clear ha2 hq0 hq1 hq2 hq3 hq4 hq8 h_1 h_2 h_3 h_4 h_5 h_6 h_7 h_8 h_9 h_10 h_11 h_65 h_66 h_70 h_75 h_1199 h_1210 h_1297 h_1298 h_1299 h_1300 h_1301 h_1302 h_1303 h_1304 h_1305 h_1306 h_1307 h_1308 h_1309 h_1310 h_1311 h_1313 h_1326 h_1328 hq6 hq7 h_12 h_21 h_37 h_1312 h_1324; omega) | omega) (fun j h1 h2 => ⟨(ln_in (e := e1) (a := (nx F e1 p0)) h1 h2).1, (ln_in (e := e1) (a := (nx F e1 p0)) h1 h2).2.1⟩)).trans (rfl)) (fun c_1329 hI_1330 hF_1331 hz_1332 => ?_))
          refine bk_inl ?_
          refine q_ldc_w_s rfl rfl rfl (by decide) ?_
          refine q_call rfl rfl rfl rfl (s_158_20 ?_)
          refine bk_inl ?_
          refine v_ic_ne_f (t := 94) rfl (by decide) (by first | (clear ha2 hq0 hq1 hq2 hq3 hq4 hq5 hq8 h_1 h_2 h_3 h_4 h_5 h_6 h_7 h_8 h_9 h_10 h_11 h_46 h_65 h_66 h_70 h_75 h_1199 h_1210 h_1297 h_1298 h_1299 h_1300 h_1301 h_1302 h_1303 h_1304 h_1305 h_1306 h_1307 h_1308 h_1309 h_1310 h_1311 h_1313 h_1326 hq6 hq7 h_12 h_21 h_37 h_1312 h_1324; omega) | omega) ?_
          refine q_aload_n rfl rfl ?_
          refine q_iconst rfl ?_
          refine v_bip rfl (by decide) ?_
          refine v_cv rfl rfl rfl rfl (by decide) ⟨⟨rfl, rfl⟩, by decide, rfl⟩ (Nat.le_of_ble_eq_true rfl) (Nat.le_of_ble_eq_true rfl) ?_
          refine q_aload_n rfl rfl ?_
          refine q_iload_n rfl rfl ?_
          refine v_cv rfl rfl rfl rfl (by decide) ⟨⟨rfl, rfl⟩, by decide, rfl⟩ (Nat.le_of_ble_eq_true rfl) (Nat.le_of_ble_eq_true rfl) ?_
          refine q_aload_n rfl rfl ?_
          refine v_cv rfl rfl rfl rfl (by decide) ⟨⟨rfl, rfl⟩, by decide, rfl⟩ (Nat.le_of_ble_eq_true rfl) (Nat.le_of_ble_eq_true rfl) ?_
          refine q_aload_n rfl rfl ?_
          have kn_1333 : Hid (c_1314 41 5 = (-1)) := (hF_1316 41 5 (fun h => absurd h.2 (ni rfl))).trans hro_hRt.2.1
          have kn_1334 : Hid (c_1319 41 5 = (-1)) := (hF_1321 41 5 (fun h => absurd h.2 (ni rfl))).trans (hid kn_1333)
          have kn_1335 : Hid (c_1329 41 5 = (-1)) := (hF_1331 41 5 (fun h => absurd h.2 (ni rfl))).trans (hid kn_1334)
          refine v_gi (z := 5) (v := (-1)) rfl rfl rfl (by decide) rfl rfl (hid kn_1335) ?_
          refine q_iconst rfl ?_
          refine v_ic_ne_f (t := 12) rfl (by decide) (by decide) ?_
          refine q_iconst rfl ?_
          refine q_goto (t := 13) rfl (by decide) ?_
          refine v_zret rfl rfl (by decide) ?_
          refine bk_inl ?_
          refine v_if_eq_f (t := 25) rfl (by decide) (by decide) ?_
          refine q_aload_n rfl rfl ?_
          have kn_1336 : Hid (c_1314 41 7 = o0) := (hF_1316 41 7 (fun h => absurd h.2 (ni rfl))).trans (hr_o0)
          have kn_1337 : Hid (c_1319 41 7 = o0) := (hF_1321 41 7 (fun h => absurd h.2 (ni rfl))).trans (hid kn_1336)
          have kn_1338 : Hid (c_1329 41 7 = o0) := (hF_1331 41 7 (fun h => absurd h.2 (ni rfl))).trans (hid kn_1337)
          refine v_gi (z := 7) (v := o0) rfl rfl rfl (by decide) rfl rfl (hid kn_1338) ?_
          refine v_bip rfl (by decide) ?_
          refine v_ic_ne_t (t := 25) rfl (by decide) ⟨by first | (clear ha2 hq0 hq1 hq3 hq4 hq5 hq8 h_1 h_2 h_3 h_4 h_5 h_6 h_7 h_8 h_9 h_10 h_11 h_46 h_65 h_66 h_75 h_1199 h_1210 h_1297 h_1298 h_1299 h_1300 h_1301 h_1302 h_1303 h_1304 h_1305 h_1306 h_1307 h_1308 h_1309 h_1310 h_1311 h_1313 h_1326 h_1328 hq6 hq7 h_12 h_21 h_37 h_1312 h_1324; omega) | omega, ⟨(Int.le_trans (by decide) (rg_eq hr_o0 h_8).1), (Int.le_trans (rg_eq hr_o0 h_8).2 (by decide))⟩, by decide, by decide⟩ ?_
          refine q_aload_n rfl rfl ?_
          refine v_cv rfl rfl rfl rfl (by decide) ⟨⟨rfl, rfl⟩, by decide, rfl⟩ (Nat.le_of_ble_eq_true rfl) (Nat.le_of_ble_eq_true rfl) ?_
          refine q_aload_n rfl rfl ?_
          refine v_gi (z := 5) (v := (-1)) rfl rfl rfl (by decide) rfl rfl (hid kn_1335) ?_
          refine q_iconst rfl ?_
          refine v_ic_ne_f (t := 12) rfl (by decide) (by decide) ?_
          refine q_iconst rfl ?_
          refine q_goto (t := 13) rfl (by decide) ?_
          refine v_zret rfl rfl (by decide) ?_
          refine bk_inl ?_
          refine v_if_eq_f (t := 42) rfl (by decide) (by decide) ?_
          refine q_aload_n rfl rfl ?_
          refine q_dup rfl rfl ?_
          refine v_gi (z := 4) (v := (nx F e1 p0)) rfl rfl rfl (by decide) rfl rfl (hz_1332) ?_
          refine q_iload_n rfl rfl ?_
          refine v_iadd (v := (nx F e1 p0) + 5) rfl rfl ?_
          refine v_pi (z := 4) rfl rfl rfl (by decide) rfl rfl rfl (by decide) ?_
          refine q_aload_n rfl rfl ?_
          refine q_dup rfl rfl ?_
          refine v_gi (z := 7) (v := o0) rfl rfl rfl (by decide) rfl rfl ((up_n (by decide)).trans (hid kn_1338)) ?_
          refine q_iconst rfl ?_
          refine v_iadd (v := o0 + 1) rfl rfl ?_
          refine v_pi (z := 7) rfl rfl rfl (by decide) rfl rfl rfl (by decide) ?_
          refine q_vret rfl rfl ?_
          refine bk_inl ?_
          refine q_aload_n rfl rfl ?_
          refine v_bip rfl (by decide) ?_
          have hI_1339 := iw_41_4 (v := (nx F e1 p0) + 5) hI_1330 ⟨by first | exact rgp_l (rg_be h_10 ((rg_eq hg_p0 h_5).1) ((rg_eq hg_e1 h_1).2)).1 (by decide) | omega, by first | exact rgp_h (rg_be h_10 ((rg_eq hg_p0 h_5).1) ((rg_eq hg_e1 h_1).2)).2 (by decide) | omega⟩
          have hI_1340 := iw_41_7 (v := o0 + 1) hI_1339 ⟨by first | exact rgp_l (rg_eq hr_o0 h_8).1 (by decide) | omega, by first | (clear ha2 hq0 hq1 hq3 hq4 hq5 hq8 h_1 h_2 h_3 h_4 h_5 h_6 h_7 h_8 h_9 h_10 h_11 h_46 h_65 h_66 h_75 h_1199 h_1210 h_1297 h_1298 h_1299 h_1300 h_1301 h_1302 h_1303 h_1304 h_1305 h_1306 h_1307 h_1308 h_1309 h_1310 h_1311 h_1313 h_1326 h_1328 hq6 hq7 h_12 h_21 h_37 h_1312 h_1324; omega) | omega⟩
          have kn_1341 : Hid (c_62 1 1 = e1) := (hF_64 1 1 (fun q => q.elim (fun h => absurd h.2 (ni rfl)) (fun q => q.elim (fun h => absurd h.2 (ni rfl)) (fun h => absurd h.2 (ni rfl))))).trans (hid kn_39)
          have kn_1342 : Hid (c_1329 41 3 = e1) := (hF_1331 41 3 (fun h => absurd h.2 (ni rfl))).trans (hid kn_1325)
          have h_1343 : c_62 1 4 = 0 := (hz_68)
          have h_1344 : c_62 1 2 = (ln F e1 (nx F e1 p0)) := (hz_67)
          have h_1345 : c_62 1 5 = g0 := (hz_69)
          have h_1346 : (up (up c_1329 41 4 ((nx F e1 p0) + 5)) 41 7 (o0 + 1)) 41 5 = (-1) := ((up_n (by decide)).trans ((up_n (by decide)).trans (hid kn_1335)))
          have h_1347 : (up (up c_1329 41 4 ((nx F e1 p0) + 5)) 41 7 (o0 + 1)) 41 4 = (nx F e1 p0) + 5 := ((up_n (by decide)).trans (up_e rfl))
          have kn_1348 : Hid (c_1314 41 6 = c 41 6) := hF_1316 41 6 (fun h => absurd h.2 (ni rfl))
          have kn_1349 : Hid (c_1319 41 6 = c 41 6) := (hF_1321 41 6 (fun h => absurd h.2 (ni rfl))).trans (hid kn_1348)
          have kn_1350 : Hid (c_1329 41 6 = c 41 6) := (hF_1331 41 6 (fun h => absurd h.2 (ni rfl))).trans (hid kn_1349)
          have h_1351 : (up (up c_1329 41 4 ((nx F e1 p0) + 5)) 41 7 (o0 + 1)) 41 6 = c 41 6 := ((up_n (by decide)).trans ((up_n (by decide)).trans (hid kn_1350)))
          refine v_cv rfl rfl rfl rfl (by decide) ⟨⟨rfl, rfl⟩, by decide, rfl⟩ (Nat.le_of_ble_eq_true rfl) (Nat.le_of_ble_eq_true rfl) (L_11_3 (m := c_62) (e1 := e1) (a9 := (ln F e1 (nx F e1 p0))) (f0 := 0) (F := F) (H := H) hI_1340 hI_63 hI_72 ((hid kn_1341)) (((up_n (by decide)).trans ((up_n (by decide)).trans (hid kn_1342)))) ((hz_67)) ((hz_68)) (fun j => ((hF_64 2 j (fun q => q.elim (fun h => absurd h.1 (nn rfl)) (fun q => q.elim (fun h => absurd h.1 (nn rfl)) (fun h => absurd h.1 (nn rfl))))).trans ((hF_36 2 j (fun h => absurd h.1 (nn rfl))).trans ((hF_26 2 j (fun h => absurd h.1 (nn rfl))).trans (hF_20 2 j (fun h => absurd h.1 (nn rfl)))))).trans (hF j)) (fun j => ((up_c (nn rfl)).trans ((up_c (nn rfl)).trans ((hF_1331 43 j (fun h => absurd h.1 (nn rfl))).trans ((hF_1321 43 j (fun h => absurd h.1 (nn rfl))).trans (hF_1316 43 j (fun h => absurd h.1 (nn rfl))))))).trans (hH j)) hU (rt_i1 ⟨by first | (clear ha2 hq0 hq1 hq2 hq3 hq4 hq5 hq8 h_1 h_2 h_3 h_4 h_5 h_6 h_7 h_8 h_9 h_10 h_11 h_46 h_65 h_66 h_70 h_75 h_1199 h_1210 h_1297 h_1298 h_1299 h_1300 h_1301 h_1302 h_1303 h_1304 h_1305 h_1306 h_1307 h_1308 h_1309 h_1310 h_1311 h_1313 h_1326 h_1328 hq6 hq7 h_12 h_21 h_37 h_1312 h_1324; omega) | omega, by first | (clear ha2 hq0 hq1 hq2 hq3 hq4 hq5 hq8 h_1 h_2 h_3 h_4 h_5 h_6 h_7 h_8 h_9 h_10 h_11 h_46 h_65 h_66 h_70 h_75 h_1199 h_1210 h_1297 h_1298 h_1299 h_1300 h_1301 h_1302 h_1303 h_1304 h_1305 h_1306 h_1307 h_1308 h_1309 h_1310 h_1311 h_1313 h_1326 h_1328 hq6 hq7 h_12 h_21 h_37 h_1312 h_1324; omega) | omega, by first | (clear ha2 hq0 hq1 hq2 hq3 hq4 hq5 hq8 h_1 h_2 h_3 h_4 h_5 h_6 h_7 h_8 h_9 h_10 h_11 h_46 h_65 h_66 h_70 h_75 h_1199 h_1210 h_1297 h_1298 h_1299 h_1300 h_1301 h_1302 h_1303 h_1304 h_1305 h_1306 h_1307 h_1308 h_1309 h_1310 h_1311 h_1313 h_1326 hq6 hq7 h_12 h_21 h_37 h_1312 h_1324; omega) | omega, by first | (clear ha2 hq0 hq2 hq3 hq4 hq5 hq8 h_1 h_2 h_3 h_4 h_5 h_6 h_7 h_8 h_9 h_10 h_11 h_46 h_65 h_66 h_70 h_75 h_1199 h_1210 h_1297 h_1298 h_1299 h_1300 h_1301 h_1302 h_1303 h_1304 h_1305 h_1306 h_1307 h_1308 h_1309 h_1310 h_1311 h_1313 h_1326 h_1328 hq6 hq7 h_12 h_21 h_37 h_1312 h_1324; omega) | omega⟩) hG_74 (fun c_1352 hI_1353 hF_1354 hR_1356 h_1357 h_1358 => ?_))
          refine bk_inl ?_
          have h_1359 := ir_1_2 hI_72
          refine q_aload_n rfl rfl ?_
          have h_1360 := ir_41_5 hI_1353
          have h_1361 := ir_41_4 hI_1353
          have h_1362 := ir_41_6 hI_1353
          have h_1363 := rt_bad hR_1356 (by omega)
          have hrb_hR_1356 := rt_bad hR_1356 (by omega)
          have h_1364 : ¬ c_1352 41 5 = -1 := by rw [show c_1352 41 5 = c_71 1 5 from hrb_hR_1356.2.1]; omega
          refine v_cv rfl rfl rfl rfl (by decide) ⟨⟨rfl, rfl⟩, by decide, rfl⟩ (Nat.le_of_ble_eq_true rfl) (Nat.le_of_ble_eq_true rfl) (n_174 hI_1353 (by omega) ?_)
          refine bk_inl ?_
          refine q_aload_n rfl rfl ?_
          refine v_bip rfl (by decide) ?_
          refine v_cv rfl rfl rfl rfl (by decide) ⟨⟨rfl, rfl⟩, by decide, rfl⟩ (Nat.le_of_ble_eq_true rfl) (Nat.le_of_ble_eq_true rfl) ?_
          refine q_aload_n rfl rfl ?_
          refine v_cv rfl rfl rfl rfl (by decide) ⟨⟨rfl, rfl⟩, by decide, rfl⟩ (Nat.le_of_ble_eq_true rfl) (Nat.le_of_ble_eq_true rfl) ?_
          refine q_aload_n rfl rfl ?_
          refine v_gi (z := 5) (v := c_71 1 5) rfl rfl rfl (by decide) rfl rfl hrb_hR_1356.2.1 ?_
          refine q_iconst rfl ?_
          refine v_ic_ne_t (t := 12) rfl (by decide) ⟨by first | (clear ha2 hq0 hq1 hq2 hq3 hq4 hq5 hq8 h_1 h_2 h_3 h_4 h_5 h_6 h_7 h_8 h_9 h_10 h_11 h_46 h_65 h_66 h_70 h_75 h_1199 h_1210 h_1297 h_1298 h_1299 h_1300 h_1301 h_1302 h_1303 h_1304 h_1305 h_1306 h_1307 h_1308 h_1309 h_1310 h_1311 h_1313 h_1326 h_1328 h_1359 h_1360 h_1361 h_1362 hq6 hq7 h_12 h_21 h_37 h_1312 h_1324 h_1357 h_1358; omega) | omega, ⟨(Int.le_trans (by decide) h_1199.1), (Int.le_trans h_1199.2 (by decide))⟩, by decide, by decide⟩ ?_
          refine q_iconst rfl ?_
          refine v_zret rfl rfl (by decide) ?_
          refine bk_inl ?_
          refine v_if_eq_t (t := 24) rfl (by decide) (by decide) ?_
          refine q_aload_n rfl rfl ?_
          refine v_cv rfl rfl rfl rfl (by decide) ⟨⟨rfl, rfl⟩, by decide, rfl⟩ (Nat.le_of_ble_eq_true rfl) (Nat.le_of_ble_eq_true rfl) ?_
          refine q_aload_n rfl rfl ?_
          refine v_gi (z := 5) (v := c_71 1 5) rfl rfl rfl (by decide) rfl rfl hrb_hR_1356.2.1 ?_
          refine q_iconst rfl ?_
          refine v_ic_ne_t (t := 12) rfl (by decide) ⟨by first | (clear ha2 hq0 hq1 hq2 hq3 hq4 hq5 hq8 h_1 h_2 h_3 h_4 h_5 h_6 h_7 h_8 h_9 h_10 h_11 h_46 h_65 h_66 h_70 h_75 h_1199 h_1210 h_1297 h_1298 h_1299 h_1300 h_1301 h_1302 h_1303 h_1304 h_1305 h_1306 h_1307 h_1308 h_1309 h_1310 h_1311 h_1313 h_1326 h_1328 h_1359 h_1360 h_1361 h_1362 hq6 hq7 h_12 h_21 h_37 h_1312 h_1324 h_1357 h_1358; omega) | omega, ⟨(Int.le_trans (by decide) h_1199.1), (Int.le_trans h_1199.2 (by decide))⟩, by decide, by decide⟩ ?_
          refine q_iconst rfl ?_
          refine v_zret rfl rfl (by decide) ?_
          refine bk_inl ?_
          refine v_if_eq_t (t := 41) rfl (by decide) (by decide) ?_
          refine q_vret rfl rfl ?_
          refine bk_inl ?_
          refine q_aload_n rfl rfl ?_
          have h_1365 : ¬ c_1352 41 5 = -1 := by rw [show c_1352 41 5 = c_71 1 5 from hrb_hR_1356.2.1]; omega
          refine v_cv rfl rfl rfl rfl (by decide) ⟨⟨rfl, rfl⟩, by decide, rfl⟩ (Nat.le_of_ble_eq_true rfl) (Nat.le_of_ble_eq_true rfl) (n_174 hI_1353 (by omega) ?_)
          refine bk_inl ?_
          refine q_aload_n rfl rfl ?_
          refine v_bip rfl (by decide) ?_
          refine v_cv rfl rfl rfl rfl (by decide) ⟨⟨rfl, rfl⟩, by decide, rfl⟩ (Nat.le_of_ble_eq_true rfl) (Nat.le_of_ble_eq_true rfl) ?_
          refine q_aload_n rfl rfl ?_
          refine v_cv rfl rfl rfl rfl (by decide) ⟨⟨rfl, rfl⟩, by decide, rfl⟩ (Nat.le_of_ble_eq_true rfl) (Nat.le_of_ble_eq_true rfl) ?_
          refine q_aload_n rfl rfl ?_
          refine v_gi (z := 5) (v := c_71 1 5) rfl rfl rfl (by decide) rfl rfl hrb_hR_1356.2.1 ?_
          refine q_iconst rfl ?_
          refine v_ic_ne_t (t := 12) rfl (by decide) ⟨by first | (clear ha2 hq0 hq1 hq2 hq3 hq4 hq5 hq8 h_1 h_2 h_3 h_4 h_5 h_6 h_7 h_8 h_9 h_10 h_11 h_46 h_65 h_66 h_70 h_75 h_1199 h_1210 h_1297 h_1298 h_1299 h_1300 h_1301 h_1302 h_1303 h_1304 h_1305 h_1306 h_1307 h_1308 h_1309 h_1310 h_1311 h_1313 h_1326 h_1328 h_1359 h_1360 h_1361 h_1362 hq6 hq7 h_12 h_21 h_37 h_1312 h_1324 h_1357 h_1358; omega) | omega, ⟨(Int.le_trans (by decide) h_1199.1), (Int.le_trans h_1199.2 (by decide))⟩, by decide, by decide⟩ ?_
          refine q_iconst rfl ?_
          refine v_zret rfl rfl (by decide) ?_
          refine bk_inl ?_
          refine v_if_eq_t (t := 24) rfl (by decide) (by decide) ?_
          refine q_aload_n rfl rfl ?_
          refine v_cv rfl rfl rfl rfl (by decide) ⟨⟨rfl, rfl⟩, by decide, rfl⟩ (Nat.le_of_ble_eq_true rfl) (Nat.le_of_ble_eq_true rfl) ?_
          refine q_aload_n rfl rfl ?_
          refine v_gi (z := 5) (v := c_71 1 5) rfl rfl rfl (by decide) rfl rfl hrb_hR_1356.2.1 ?_
          refine q_iconst rfl ?_
          refine v_ic_ne_t (t := 12) rfl (by decide) ⟨by first | (clear ha2 hq0 hq1 hq2 hq3 hq4 hq5 hq8 h_1 h_2 h_3 h_4 h_5 h_6 h_7 h_8 h_9 h_10 h_11 h_46 h_65 h_66 h_70 h_75 h_1199 h_1210 h_1297 h_1298 h_1299 h_1300 h_1301 h_1302 h_1303 h_1304 h_1305 h_1306 h_1307 h_1308 h_1309 h_1310 h_1311 h_1313 h_1326 h_1328 h_1359 h_1360 h_1361 h_1362 hq6 hq7 h_12 h_21 h_37 h_1312 h_1324 h_1357 h_1358; omega) | omega, ⟨(Int.le_trans (by decide) h_1199.1), (Int.le_trans h_1199.2 (by decide))⟩, by decide, by decide⟩ ?_
          refine q_iconst rfl ?_
          refine v_zret rfl rfl (by decide) ?_
          refine bk_inl ?_
          refine v_if_eq_t (t := 41) rfl (by decide) (by decide) ?_
          refine q_vret rfl rfl ?_
          refine bk_inl ?_
          refine q_aload_n rfl rfl ?_
          refine q_dup rfl rfl ?_
          have kn_1366 : Hid (c_1352 41 7 = o0 + 1) := (hF_1354 41 7 (fun q => q.elim (fun h => absurd h.2 (ni rfl)) (fun q => q.elim (fun h => absurd h.2 (ni rfl)) (fun h => absurd h.2 (ni rfl))))).trans (up_e rfl)
          refine v_gi (z := 7) (v := o0 + 1) rfl rfl rfl (by decide) rfl rfl (hid kn_1366) ?_
          refine q_iconst rfl ?_
          refine v_isub (v := o0) rfl (by first | (clear ha2 hq0 hq1 hq2 hq3 hq4 hq5 hq8 h_1 h_2 h_3 h_4 h_5 h_6 h_7 h_8 h_9 h_10 h_11 h_46 h_65 h_66 h_70 h_75 h_1199 h_1210 h_1297 h_1298 h_1299 h_1300 h_1301 h_1302 h_1303 h_1304 h_1305 h_1306 h_1307 h_1308 h_1309 h_1310 h_1311 h_1313 h_1326 h_1328 h_1359 h_1360 h_1361 h_1362 h_1363 hq6 hq7 h_12 h_21 h_37 h_1312 h_1324 h_1357 h_1358; omega) | omega) ?_
          refine v_pi (z := 7) rfl rfl rfl (by decide) rfl rfl rfl (by decide) ?_
          refine q_aload_n rfl rfl ?_
          refine q_iload_n rfl rfl ?_
          refine q_iconst rfl ?_
          refine v_cv rfl rfl rfl rfl (by decide) ⟨⟨rfl, rfl⟩, by decide, rfl⟩ (Nat.le_of_ble_eq_true rfl) (Nat.le_of_ble_eq_true rfl) ?_
          refine q_aload_n rfl rfl ?_
          refine v_cv rfl rfl rfl rfl (by decide) ⟨⟨rfl, rfl⟩, by decide, rfl⟩ (Nat.le_of_ble_eq_true rfl) (Nat.le_of_ble_eq_true rfl) ?_
          refine q_aload_n rfl rfl ?_
          refine v_gi (z := 5) (v := c_71 1 5) rfl rfl rfl (by decide) rfl rfl (((up_n (by decide))).trans (hrb_hR_1356.2.1)) ?_
          refine q_iconst rfl ?_
          refine v_ic_ne_t (t := 12) rfl (by decide) ⟨by first | (clear ha2 hq0 hq1 hq2 hq3 hq4 hq5 hq8 h_1 h_2 h_3 h_4 h_5 h_6 h_7 h_8 h_9 h_10 h_11 h_46 h_65 h_66 h_70 h_75 h_1199 h_1210 h_1297 h_1298 h_1299 h_1300 h_1301 h_1302 h_1303 h_1304 h_1305 h_1306 h_1307 h_1308 h_1309 h_1310 h_1311 h_1313 h_1326 h_1328 h_1359 h_1360 h_1361 h_1362 hq6 hq7 h_12 h_21 h_37 h_1312 h_1324 h_1357 h_1358; omega) | omega, ⟨(Int.le_trans (by decide) h_1199.1), (Int.le_trans h_1199.2 (by decide))⟩, by decide, by decide⟩ ?_
          refine q_iconst rfl ?_
          refine v_zret rfl rfl (by decide) ?_
          refine bk_inl ?_
          refine v_if_ne_f (t := 8) rfl (by decide) (by decide) ?_
          refine q_vret rfl rfl ?_
          refine bk_inl ?_
          refine q_vret rfl rfl ?_
          refine bk_inl ?_
          refine q_goto (t := 154) rfl (by decide) ?_
          refine q_vret rfl rfl ?_
          have hI_1367 := iw_41_7 (v := o0) hI_1353 ⟨(rg_eq hr_o0 h_8).1, (rg_eq hr_o0 h_8).2⟩
          have h_1368 : (up c_1352 41 7 o0) 41 5 = c_71 1 5 := (((up_n (by decide))).trans (hrb_hR_1356.2.1))
          have h_1369 : (up c_1352 41 7 o0) 41 4 = c_1352 41 4 := (up_n (by decide))
          have h_1370 : (up c_1352 41 7 o0) 41 6 = c_71 1 4 := (((up_n (by decide))).trans (hrb_hR_1356.2.2.2))
          have kn_1371 : Hid (c_1314 41 29 = n0) := (hF_1316 41 29 (fun h => absurd h.2 (ni rfl))).trans (hr_n0)
          have kn_1372 : Hid (c_1319 41 29 = n0) := (hF_1321 41 29 (fun h => absurd h.2 (ni rfl))).trans (hid kn_1371)
          have kn_1373 : Hid (c_1329 41 29 = n0) := (hF_1331 41 29 (fun h => absurd h.2 (ni rfl))).trans (hid kn_1372)
          have kn_1374 : Hid (c_1352 41 29 = n0) := (hF_1354 41 29 (fun q => q.elim (fun h => absurd h.2 (ni rfl)) (fun q => q.elim (fun h => absurd h.2 (ni rfl)) (fun h => absurd h.2 (ni rfl))))).trans ((up_n (by decide)).trans ((up_n (by decide)).trans (hid kn_1373)))
          have h_1375 : (up c_1352 41 7 o0) 41 29 = n0 := ((up_n (by decide)).trans (hid kn_1374))
          have h_1376 : (up c_1352 41 7 o0) 41 7 = o0 := (up_e rfl)
          have h_1377 : (up c_1352 41 7 o0) 41 29 = n0 := ((up_n (by decide)).trans (hid kn_1374))
          exact K (up c_1352 41 7 o0)  hI_1367 (fun a j hm => (up_b (Decidable.or_iff_not_imp_left.mpr (fun h1 h2 => hm (Or.inr (Or.inr (Or.inr (Or.inl ⟨Decidable.not_not.mp h1, h2⟩))))))).trans ((hF_1354 a j (fun q => q.elim (fun h => hm (Or.inl h)) (fun q => q.elim (fun h => hm (Or.inr (Or.inl h))) (fun h => hm (Or.inr (Or.inr (Or.inl h))))))).trans ((up_b (Decidable.or_iff_not_imp_left.mpr (fun h1 h2 => hm (Or.inr (Or.inr (Or.inr (Or.inl ⟨Decidable.not_not.mp h1, h2⟩))))))).trans ((up_b (Decidable.or_iff_not_imp_left.mpr (fun h1 h2 => hm (Or.inl ⟨Decidable.not_not.mp h1, h2⟩)))).trans ((hF_1331 a j (fun h => hm (Or.inl h))).trans ((hF_1321 a j (fun h => hm (Or.inl h))).trans (hF_1316 a j (fun h => hm (Or.inl h))))))))) (rt_i2 ⟨⟨by first | (clear ha2 hq0 hq1 hq2 hq3 hq4 hq5 hq8 h_1 h_2 h_3 h_4 h_5 h_6 h_7 h_8 h_9 h_10 h_11 h_46 h_65 h_66 h_70 h_75 h_1199 h_1210 h_1297 h_1299 h_1300 h_1301 h_1302 h_1303 h_1304 h_1305 h_1306 h_1307 h_1308 h_1309 h_1310 h_1311 h_1313 h_1326 h_1328 h_1359 h_1360 h_1361 h_1362 hq6 hq7 h_12 h_21 h_37 h_1312 h_1324 h_1357 h_1358; omega) | omega, by first | (clear ha2 hq0 hq1 hq2 hq3 hq4 hq5 hq8 h_1 h_2 h_3 h_4 h_5 h_6 h_7 h_8 h_9 h_10 h_11 h_46 h_65 h_66 h_70 h_75 h_1199 h_1210 h_1298 h_1299 h_1300 h_1301 h_1302 h_1303 h_1304 h_1305 h_1306 h_1307 h_1308 h_1309 h_1310 h_1311 h_1313 h_1326 h_1328 h_1359 h_1360 h_1361 h_1362 h_1363 hq6 hq7 h_12 h_21 h_37 h_1312 h_1324 h_1357 h_1358; omega) | omega⟩, by first | (clear ha2 hq0 hq1 hq2 hq3 hq4 hq5 hq8 h_1 h_2 h_3 h_4 h_5 h_6 h_7 h_8 h_9 h_10 h_11 h_46 h_65 h_66 h_70 h_75 h_1199 h_1210 h_1297 h_1298 h_1299 h_1300 h_1301 h_1302 h_1304 h_1305 h_1306 h_1307 h_1308 h_1309 h_1310 h_1311 h_1313 h_1326 h_1328 h_1359 h_1360 h_1361 h_1362 h_1363 hq6 hq7 h_12 h_21 h_37 h_1312 h_1324 h_1357 h_1358; omega) | omega, by first | (clear ha2 hq0 hq1 hq2 hq3 hq4 hq5 hq8 h_1 h_2 h_3 h_4 h_5 h_6 h_7 h_8 h_9 h_10 h_11 h_46 h_65 h_66 h_70 h_75 h_1199 h_1210 h_1297 h_1298 h_1299 h_1300 h_1301 h_1302 h_1304 h_1305 h_1306 h_1307 h_1308 h_1309 h_1310 h_1311 h_1313 h_1326 h_1328 h_1359 h_1360 h_1361 h_1362 hq6 hq7 h_12 h_21 h_37 h_1312 h_1324 h_1357 h_1358; omega) | omega, by first | (clear ha2 hq0 hq1 hq2 hq3 hq4 hq5 hq8 h_1 h_2 h_3 h_4 h_5 h_6 h_7 h_8 h_9 h_10 h_11 h_46 h_65 h_66 h_70 h_75 h_1199 h_1210 h_1297 h_1299 h_1300 h_1301 h_1302 h_1303 h_1304 h_1305 h_1306 h_1307 h_1308 h_1309 h_1310 h_1311 h_1313 h_1326 h_1328 h_1359 h_1360 h_1361 h_1362 h_1363 hq6 hq7 h_12 h_21 h_37 h_1312 h_1324 h_1357 h_1358; omega) | omega⟩) (Or.inr (Or.inl (by first | (clear ha2 hq0 hq1 hq2 hq3 hq4 hq5 hq8 h_1 h_2 h_3 h_4 h_5 h_6 h_7 h_8 h_9 h_10 h_11 h_46 h_65 h_66 h_70 h_75 h_1199 h_1210 h_1297 h_1299 h_1300 h_1301 h_1302 h_1303 h_1304 h_1305 h_1306 h_1307 h_1308 h_1309 h_1310 h_1311 h_1313 h_1326 h_1328 h_1359 h_1360 h_1361 h_1362 hq6 hq7 h_12 h_21 h_37 h_1312 h_1324 h_1357 h_1358; omega) | omega))) (by first | (clear ha2 hq0 hq1 hq3 hq4 hq5 hq8 h_1 h_2 h_3 h_4 h_5 h_6 h_7 h_8 h_9 h_10 h_11 h_46 h_65 h_66 h_70 h_75 h_1199 h_1210 h_1297 h_1298 h_1299 h_1300 h_1301 h_1302 h_1303 h_1304 h_1305 h_1306 h_1307 h_1308 h_1309 h_1310 h_1311 h_1313 h_1326 h_1328 h_1359 h_1360 h_1361 h_1362 h_1363 hq6 hq7 h_12 h_21 h_37 h_1312 h_1324 h_1357 h_1358; omega) | omega) (fun hz => absurd hz (by omega))
  · as_aux_lemma =>
      refine v_ic_lt_f (t := 94) rfl (by decide) ⟨by decide, (Int.not_lt.mp h_70), (Int.le_trans ha2.2 (by decide))⟩ ?_
      refine q_aload_n rfl rfl ?_
      refine q_iconst rfl ?_
      refine q_iload_n rfl rfl ?_
      refine v_cv rfl rfl rfl rfl (by decide) ⟨⟨rfl, rfl⟩, by decide, rfl⟩ (Nat.le_of_ble_eq_true rfl) (Nat.le_of_ble_eq_true rfl) ?_
      refine q_aload_n rfl rfl ?_
      refine v_gi (z := 4) (v := 0) rfl rfl rfl (by decide) rfl rfl (hz_68) ?_
      refine v_if_ne_f (t := 17) rfl (by decide) (by decide) ?_
      refine q_aload_n rfl rfl ?_
      refine q_iload_n rfl rfl ?_
      refine v_pi (z := 4) rfl rfl rfl (by decide) rfl rfl rfl (by decide) ?_
      refine q_aload_n rfl rfl ?_
      refine q_iload_n rfl rfl ?_
      refine v_pi (z := 5) rfl rfl rfl (by decide) rfl rfl rfl (by decide) ?_
      refine q_vret rfl rfl ?_
      refine bk_inl ?_
      refine q_aload_n rfl rfl ?_
      refine v_cv rfl rfl rfl rfl (by decide) ⟨⟨rfl, rfl⟩, by decide, rfl⟩ (Nat.le_of_ble_eq_true rfl) (Nat.le_of_ble_eq_true rfl) ?_
      refine q_aload_n rfl rfl ?_
      refine v_gi (z := 4) (v := 3) rfl rfl rfl (by decide) rfl rfl ((up_n (by decide)).trans (up_e rfl)) ?_
      refine v_if_ne_t (t := 11) rfl (by decide) (by decide) ?_
      refine q_iconst rfl ?_
      refine v_zret rfl rfl (by decide) ?_
      refine bk_inl ?_
      refine v_if_ne_f (t := 102) rfl (by decide) (by decide) ?_
      refine q_vret rfl rfl ?_
      have hI_1378 := iw_1_4 (v := 3) hI_63 ⟨by decide, by decide⟩
      have hI_1379 := iw_1_5 (v := (nx F e1 p0)) hI_1378 ⟨(Int.le_trans (by decide) (rg_be h_10 ((rg_eq hg_p0 h_5).1) ((rg_eq hg_e1 h_1).2)).1), (rg_be h_10 ((rg_eq hg_p0 h_5).1) ((rg_eq hg_e1 h_1).2)).2⟩
      intro hE_1380
      have hW : Wd P Q P P (up (up c_62 1 4 3) 1 5 (nx F e1 p0)) = Wd P Q P P m9 := (Prod.mk.inj (Prod.mk.inj hE_1380).2).1
      have h_1381 := ir_1_4 hJ9
      have h_1382 : m9 1 4 = 3 := wd_fv (z := 4) 4 rfl hW rfl rfl rfl rfl (by decide) ((up_n (by decide)).trans (up_e rfl)) ⟨by decide, by decide⟩ ⟨(Int.le_trans (by decide) h_1381.1), (Int.le_trans h_1381.2 (by decide))⟩
      have h_1383 := ir_1_2 hJ9
      have h_1384 : m9 1 2 = (ln F e1 (nx F e1 p0)) := wd_fv (z := 2) 2 rfl hW rfl rfl rfl rfl (by decide) ((up_n (by decide)).trans ((up_n (by decide)).trans (hz_67))) ⟨(Int.le_trans (by decide) (rg_be h_46 ((rg_be h_10 ((rg_eq hg_p0 h_5).1) ((rg_eq hg_e1 h_1).2)).1) ((rg_eq hg_e1 h_1).2)).1), (Int.le_trans (rg_be h_46 ((rg_be h_10 ((rg_eq hg_p0 h_5).1) ((rg_eq hg_e1 h_1).2)).1) ((rg_eq hg_e1 h_1).2)).2 (by decide))⟩ ⟨(Int.le_trans (by decide) h_1383.1), (Int.le_trans h_1383.2 (by decide))⟩
      have h_1385 := ir_1_5 hJ9
      have h_1386 : m9 1 5 = (nx F e1 p0) := wd_fv (z := 5) 5 rfl hW rfl rfl rfl rfl (by decide) (up_e rfl) ⟨(Int.le_trans (by decide) (rg_be h_10 ((rg_eq hg_p0 h_5).1) ((rg_eq hg_e1 h_1).2)).1), (Int.le_trans (rg_be h_10 ((rg_eq hg_p0 h_5).1) ((rg_eq hg_e1 h_1).2)).2 (by decide))⟩ ⟨(Int.le_trans (by decide) h_1385.1), (Int.le_trans h_1385.2 (by decide))⟩
      have kn_1387 : Hid (c_18 (A + 7) 5 = n0) := (hF_20 (A + 7) 5 (fun h => absurd h.1 (np hA rfl rfl))).trans (hg_n0)
      have kn_1388 : Hid (c_24 (A + 7) 5 = n0) := (hF_26 (A + 7) 5 (fun h => absurd h.1 (np hA rfl rfl))).trans (hid kn_1387)
      have kn_1389 : Hid (c_34 (A + 7) 5 = n0) := (hF_36 (A + 7) 5 (fun h => absurd h.1 (np hA rfl rfl))).trans (hid kn_1388)
      have kn_1390 : Hid (c_62 (A + 7) 5 = n0) := (hF_64 (A + 7) 5 (fun q => q.elim (fun h => absurd h.1 (np hA rfl rfl)) (fun q => q.elim (fun h => absurd h.1 (np hA rfl rfl)) (fun h => absurd h.1 (np hA rfl rfl))))).trans (hid kn_1389)
      have h_1391 := ir_p7_5 hJ9 hA
      have h_1392 : m9 (A + 7) 5 = n0 := wd_fv (z := 5) 5 rfl hW (ck_p7 hA) (ck_p7 hA) rfl rfl (by omega) ((up_c (np hA rfl rfl)).trans ((up_c (np hA rfl rfl)).trans (hid kn_1390))) ⟨(Int.le_trans (by decide) (rg_eq hg_n0 h_6).1), (Int.le_trans (rg_eq hg_n0 h_6).2 (by decide))⟩ ⟨(Int.le_trans (by decide) h_1391.1), (Int.le_trans h_1391.2 (by decide))⟩
      refine q_aload_n rfl rfl ?_
      refine v_cv rfl rfl rfl rfl (by decide) ⟨⟨rfl, rfl⟩, by decide, rfl⟩ (Nat.le_of_ble_eq_true rfl) (Nat.le_of_ble_eq_true rfl) ?_
      refine q_aload_n rfl rfl ?_
      have h_1393 := ir_41_5 hI
      have h_1394 := ir_41_4 hI
      have h_1395 := ir_41_6 hI
      have h_1396 := rt_ok hRt (by omega)
      have hro_hRt := rt_ok hRt (by omega)
      refine v_gi (z := 5) (v := (-1)) rfl rfl rfl (by decide) rfl rfl hro_hRt.2.1 ?_
      refine q_iconst rfl ?_
      refine v_ic_ne_f (t := 12) rfl (by decide) (by decide) ?_
      refine q_iconst rfl ?_
      refine q_goto (t := 13) rfl (by decide) ?_
      refine v_zret rfl rfl (by decide) ?_
      refine bk_inl ?_
      refine v_if_ne_t (t := 8) rfl (by decide) (by decide) ?_
      refine q_aload_n rfl rfl ?_
      have h_1397 : -2147483648 ≤ (H (nx F e1 p0)) ∧ (H (nx F e1 p0)) ≤ 2147483647 := by rw [← hH (nx F e1 p0)]; exact ir_43 hI (nx F e1 p0)
      have h_1398 := hU (nx F e1 p0) (by omega) (by omega)
      have h_1399 := hb_or (b := H) (e := e1) (r := (nx F e1 p0))
      have h_1400 := hb_bd (b := H) (e := e1) (r := (nx F e1 p0)) (lo := -2147483648) (hi := 2147483647) h_1397 (by decide)
      refine v_cv rfl rfl rfl rfl (by decide) ⟨⟨rfl, rfl⟩, by decide, rfl⟩ (Nat.le_of_ble_eq_true rfl) (Nat.le_of_ble_eq_true rfl) (f_154 (e1 := e1) (a9 := p0) (B := H) (r8 := (nx F e1 p0)) (r := (hb H e1 (nx F e1 p0))) hI ((hr_e1)) (((hro_hRt.2.2.1).trans ((hg_p0)))) (fun j => hH j) ((nx_tr hU (by first | (clear ha2 hq0 hq1 hq2 hq3 hq4 hq5 hq8 h_1 h_2 h_3 h_4 h_6 h_7 h_8 h_9 h_10 h_11 h_46 h_65 h_66 h_1381 h_1382 h_1383 h_1384 h_1385 h_1386 h_1391 h_1392 h_1393 h_1394 h_1395 h_1396 hq6 hq7 h_12 h_21 h_37; omega) | omega) (by first | (clear ha2 hq0 hq1 hq2 hq3 hq4 hq8 h_1 h_2 h_3 h_4 h_5 h_6 h_7 h_8 h_9 h_10 h_11 h_46 h_65 h_66 h_1381 h_1382 h_1383 h_1384 h_1385 h_1386 h_1391 h_1392 h_1393 h_1394 h_1395 h_1396 hq6 hq7 h_12 h_21 h_37; omega) | omega)).trans (rfl)) rfl (fun c_1401 hI_1402 hF_1403 h_1404 => ?_))
      refine bk_inl ?_
      refine v_bip rfl (by decide) ?_
      refine v_ic_ne_t (t := 45) rfl (by decide) ⟨by first | (clear ha2 hq0 hq1 hq2 hq3 hq8 h_3 h_4 h_5 h_6 h_7 h_8 h_9 h_11 h_65 h_66 h_1381 h_1382 h_1383 h_1384 h_1385 h_1391 h_1392 h_1393 h_1394 h_1395 h_1396; omega) | omega, ⟨h_1400.1, h_1400.2⟩, by decide, by decide⟩ ?_
      refine q_aload_n rfl rfl ?_
      have kn_1405 : Hid (c_1401 41 3 = e1) := (hF_1403 41 3 (fun h => absurd h.2 (ni rfl))).trans (hr_e1)
      refine v_cv rfl rfl rfl rfl (by decide) ⟨⟨rfl, rfl⟩, by decide, rfl⟩ (Nat.le_of_ble_eq_true rfl) (Nat.le_of_ble_eq_true rfl) (f_154 (e1 := e1) (a9 := (nx F e1 p0)) (B := H) (r8 := (nx F e1 p0)) (r := (hb H e1 (nx F e1 p0))) hI_1402 ((hid kn_1405)) ((h_1404)) (fun j => (hF_1403 43 j (fun h => absurd h.1 (nn rfl))).trans (hH j)) ((nx_tr hU (by first | (clear ha2 hq0 hq1 hq2 hq3 hq4 hq5 hq8 h_1 h_2 h_3 h_4 h_6 h_7 h_8 h_9 h_11 h_46 h_65 h_66 h_1381 h_1382 h_1383 h_1384 h_1385 h_1386 h_1391 h_1392 h_1393 h_1394 h_1395 h_1396 h_1397 h_1398 h_1400 hq6 hq7 h_12 h_21 h_37 h_1399; omega) | omega) (by first | (clear ha2 hq0 hq1 hq2 hq3 hq4 hq8 h_1 h_2 h_3 h_4 h_5 h_6 h_7 h_8 h_9 h_10 h_11 h_46 h_65 h_66 h_1381 h_1382 h_1383 h_1384 h_1385 h_1386 h_1391 h_1392 h_1393 h_1394 h_1395 h_1396 h_1397 h_1398 h_1400 hq6 hq7 h_12 h_21 h_37 h_1399; omega) | omega)).trans ((nx_z (by omega)))) rfl (fun c_1406 hI_1407 hF_1408 h_1409 => ?_))
      refine bk_inl ?_
      refine q_call rfl rfl rfl rfl (f_156 (a0 := (hb H e1 (nx F e1 p0))) hI_1407 (show (-2147483648) ≤ (hb H e1 (nx F e1 p0)) ∧ (hb H e1 (nx F e1 p0)) ≤ 2147483647 from h_1400) (fun y_1410 hy_1410 h_1411 => ?_))
      refine bk_inl ?_
      refine v_if_eq_t (t := 71) rfl (by decide) (by first | (clear ha2 hq0 hq1 hq2 hq3 hq8 h_3 h_4 h_5 h_6 h_7 h_8 h_9 h_11 h_65 h_66 h_1381 h_1382 h_1383 h_1384 h_1385 h_1391 h_1392 h_1393 h_1394 h_1395 h_1396; omega) | omega) ?_
      refine q_aload_n rfl rfl ?_
      have kn_1412 : Hid (c_1406 41 3 = e1) := (hF_1408 41 3 (fun h => absurd h.2 (ni rfl))).trans (hid kn_1405)
      have h_1413 := wv_bd (b := F) (r := (nx F e1 p0)) (l := (ln F e1 (nx F e1 p0))) (fun j h1 h2 => ⟨(ln_in (e := e1) (a := (nx F e1 p0)) h1 h2).1, (ln_in (e := e1) (a := (nx F e1 p0)) h1 h2).2.1⟩)
      have h_1414 := wr1_8 (b := F) (r := (nx F e1 p0)) (l := (ln F e1 (nx F e1 p0))) (by omega) (fun j h1 h2 => ⟨(ln_in (e := e1) (a := (nx F e1 p0)) h1 h2).1, (ln_in (e := e1) (a := (nx F e1 p0)) h1 h2).2.1⟩) (by omega)
      have h_1415 : (wv F (nx F e1 p0) (ln F e1 (nx F e1 p0))) = 12748404 → (ln F e1 (nx F e1 p0)) - (nx F e1 p0) = 5 := wl_least (by omega) (fun j h1 h2 => ⟨(ln_in (e := e1) (a := (nx F e1 p0)) h1 h2).1, (ln_in (e := e1) (a := (nx F e1 p0)) h1 h2).2.1⟩)
      refine v_cv rfl rfl rfl rfl (by decide) ⟨⟨rfl, rfl⟩, by decide, rfl⟩ (Nat.le_of_ble_eq_true rfl) (Nat.le_of_ble_eq_true rfl) (f_157 (e1 := e1) (a9 := (nx F e1 p0)) (B := H) (r8 := (nx F e1 p0)) (L8 := (ln F e1 (nx F e1 p0))) (W8 := (wv F (nx F e1 p0) (ln F e1 (nx F e1 p0)))) hI_1407 ((hid kn_1412)) ((h_1409)) (fun j => ((hF_1408 43 j (fun h => absurd h.1 (nn rfl))).trans (hF_1403 43 j (fun h => absurd h.1 (nn rfl)))).trans (hH j)) ((nx_tr hU (by first | (clear ha2 hq0 hq1 hq2 hq3 hq4 hq5 hq8 h_1 h_2 h_3 h_4 h_6 h_7 h_8 h_9 h_11 h_46 h_65 h_66 h_1381 h_1382 h_1383 h_1384 h_1385 h_1386 h_1391 h_1392 h_1393 h_1394 h_1395 h_1396 h_1397 h_1398 h_1400 hq6 hq7 h_12 h_21 h_37 h_1399 h_1411; omega) | omega) (by first | (clear ha2 hq0 hq1 hq2 hq3 hq4 hq8 h_1 h_2 h_3 h_4 h_5 h_6 h_7 h_8 h_9 h_10 h_11 h_46 h_65 h_66 h_1381 h_1382 h_1383 h_1384 h_1385 h_1386 h_1391 h_1392 h_1393 h_1394 h_1395 h_1396 h_1397 h_1398 h_1400 hq6 hq7 h_12 h_21 h_37 h_1399 h_1411; omega) | omega)).trans ((nx_z (by omega)))) ((ln_tr hU (by first | (clear ha2 hq0 hq1 hq2 hq3 hq4 hq5 hq8 h_1 h_2 h_3 h_4 h_6 h_7 h_8 h_9 h_11 h_46 h_65 h_66 h_1381 h_1382 h_1383 h_1384 h_1385 h_1386 h_1391 h_1392 h_1393 h_1394 h_1395 h_1396 h_1397 h_1398 h_1400 hq6 hq7 h_12 h_21 h_37 h_1399 h_1411; omega) | omega) (by first | (clear ha2 hq0 hq1 hq2 hq3 hq4 hq8 h_1 h_2 h_3 h_4 h_5 h_6 h_7 h_8 h_9 h_10 h_11 h_46 h_65 h_66 h_1381 h_1382 h_1383 h_1384 h_1385 h_1386 h_1391 h_1392 h_1393 h_1394 h_1395 h_1396 h_1397 h_1398 h_1400 hq6 hq7 h_12 h_21 h_37 h_1399 h_1411; omega) | omega)).trans (rfl)) ((wv_tr hU (by first | (clear ha2 hq0 hq1 hq2 hq3 hq4 hq5 hq8 h_1 h_2 h_3 h_4 h_6 h_7 h_8 h_9 h_11 h_46 h_65 h_66 h_1381 h_1382 h_1383 h_1384 h_1385 h_1386 h_1391 h_1392 h_1393 h_1394 h_1395 h_1396 h_1397 h_1398 h_1400 h_1413 h_1415 hq6 hq7 h_12 h_21 h_37 h_1399 h_1411; omega) | omega) (by first | (clear ha2 hq0 hq1 hq2 hq3 hq4 hq8 h_1 h_2 h_3 h_4 h_5 h_6 h_7 h_8 h_9 h_10 h_11 h_65 h_66 h_1381 h_1382 h_1383 h_1384 h_1385 h_1386 h_1391 h_1392 h_1393 h_1394 h_1395 h_1396 h_1397 h_1398 h_1400 h_1413 h_1415 hq6 hq7 h_12 h_21 h_37 h_1399 h_1411; omega) | omega) (fun j h1 h2 => ⟨(ln_in (e := e1) (a := (nx F e1 p0)) h1 h2).1, (ln_in (e := e1) (a := (nx F e1 p0)) h1 h2).2.1⟩)).trans (rfl)) (fun c_1416 hI_1417 hF_1418 hz_1419 => ?_))
      refine bk_inl ?_
      refine q_ldc_w_s rfl rfl rfl (by decide) ?_
      refine q_call rfl rfl rfl rfl (s_158_20 ?_)
      refine bk_inl ?_
      refine v_ic_ne_f (t := 94) rfl (by decide) (by first | (clear ha2 hq0 hq1 hq2 hq3 hq4 hq5 hq8 h_1 h_2 h_3 h_4 h_5 h_6 h_7 h_8 h_9 h_10 h_11 h_46 h_65 h_66 h_1381 h_1382 h_1383 h_1384 h_1385 h_1386 h_1391 h_1392 h_1393 h_1394 h_1395 h_1396 h_1397 h_1398 h_1400 h_1413 hq6 hq7 h_12 h_21 h_37 h_1399 h_1411; omega) | omega) ?_
      refine q_aload_n rfl rfl ?_
      refine q_iconst rfl ?_
      refine v_bip rfl (by decide) ?_
      refine v_cv rfl rfl rfl rfl (by decide) ⟨⟨rfl, rfl⟩, by decide, rfl⟩ (Nat.le_of_ble_eq_true rfl) (Nat.le_of_ble_eq_true rfl) ?_
      refine q_aload_n rfl rfl ?_
      refine q_iload_n rfl rfl ?_
      refine v_cv rfl rfl rfl rfl (by decide) ⟨⟨rfl, rfl⟩, by decide, rfl⟩ (Nat.le_of_ble_eq_true rfl) (Nat.le_of_ble_eq_true rfl) ?_
      refine q_aload_n rfl rfl ?_
      refine v_cv rfl rfl rfl rfl (by decide) ⟨⟨rfl, rfl⟩, by decide, rfl⟩ (Nat.le_of_ble_eq_true rfl) (Nat.le_of_ble_eq_true rfl) ?_
      refine q_aload_n rfl rfl ?_
      have kn_1420 : Hid (c_1401 41 5 = (-1)) := (hF_1403 41 5 (fun h => absurd h.2 (ni rfl))).trans hro_hRt.2.1
      have kn_1421 : Hid (c_1406 41 5 = (-1)) := (hF_1408 41 5 (fun h => absurd h.2 (ni rfl))).trans (hid kn_1420)
      have kn_1422 : Hid (c_1416 41 5 = (-1)) := (hF_1418 41 5 (fun h => absurd h.2 (ni rfl))).trans (hid kn_1421)
      refine v_gi (z := 5) (v := (-1)) rfl rfl rfl (by decide) rfl rfl (hid kn_1422) ?_
      refine q_iconst rfl ?_
      refine v_ic_ne_f (t := 12) rfl (by decide) (by decide) ?_
      refine q_iconst rfl ?_
      refine q_goto (t := 13) rfl (by decide) ?_
      refine v_zret rfl rfl (by decide) ?_
      refine bk_inl ?_
      refine v_if_eq_f (t := 25) rfl (by decide) (by decide) ?_
      refine q_aload_n rfl rfl ?_
      have kn_1423 : Hid (c_1401 41 7 = o0) := (hF_1403 41 7 (fun h => absurd h.2 (ni rfl))).trans (hr_o0)
      have kn_1424 : Hid (c_1406 41 7 = o0) := (hF_1408 41 7 (fun h => absurd h.2 (ni rfl))).trans (hid kn_1423)
      have kn_1425 : Hid (c_1416 41 7 = o0) := (hF_1418 41 7 (fun h => absurd h.2 (ni rfl))).trans (hid kn_1424)
      refine v_gi (z := 7) (v := o0) rfl rfl rfl (by decide) rfl rfl (hid kn_1425) ?_
      refine v_bip rfl (by decide) ?_
      refine v_ic_ne_f (t := 25) rfl (by decide) (by first | (clear hq0 hq1 hq3 hq4 hq5 hq8 h_1 h_2 h_3 h_4 h_5 h_6 h_7 h_8 h_9 h_10 h_11 h_46 h_65 h_66 h_1381 h_1382 h_1383 h_1384 h_1385 h_1386 h_1391 h_1392 h_1393 h_1394 h_1395 h_1396 h_1397 h_1398 h_1400 h_1413 h_1415 hq6 hq7 h_12 h_21 h_37 h_1399 h_1411; omega) | omega) ?_
      refine q_aload_n rfl rfl ?_
      refine q_iconst rfl ?_
      refine q_aload_n rfl rfl ?_
      refine v_gi (z := 4) (v := (nx F e1 p0)) rfl rfl rfl (by decide) rfl rfl (hz_1419) ?_
      refine v_cv rfl rfl rfl rfl (by decide) ⟨⟨rfl, rfl⟩, by decide, rfl⟩ (Nat.le_of_ble_eq_true rfl) (Nat.le_of_ble_eq_true rfl) ?_
      refine q_aload_n rfl rfl ?_
      refine v_gi (z := 5) (v := (-1)) rfl rfl rfl (by decide) rfl rfl (hid kn_1422) ?_
      refine q_iconst rfl ?_
      refine v_ic_eq_t (t := 9) rfl (by decide) (by decide) ?_
      refine q_aload_n rfl rfl ?_
      refine q_iload_n rfl rfl ?_
      refine v_pi (z := 5) rfl rfl rfl (by decide) rfl rfl rfl (by decide) ?_
      refine q_aload_n rfl rfl ?_
      refine q_iload_n rfl rfl ?_
      refine v_pi (z := 6) rfl rfl rfl (by decide) rfl rfl rfl (by decide) ?_
      refine q_vret rfl rfl ?_
      refine bk_inl ?_
      refine q_aload_n rfl rfl ?_
      refine v_cv rfl rfl rfl rfl (by decide) ⟨⟨rfl, rfl⟩, by decide, rfl⟩ (Nat.le_of_ble_eq_true rfl) (Nat.le_of_ble_eq_true rfl) ?_
      refine q_aload_n rfl rfl ?_
      refine v_gi (z := 5) (v := (nx F e1 p0)) rfl rfl rfl (by decide) rfl rfl ((up_n (by decide)).trans (up_e rfl)) ?_
      refine q_iconst rfl ?_
      refine v_ic_ne_t (t := 12) rfl (by decide) ⟨(ne_rg (rg_be h_10 ((rg_eq hg_p0 h_5).1) ((rg_eq hg_e1 h_1).2)) (by decide)), ⟨(Int.le_trans (by decide) (rg_be h_10 ((rg_eq hg_p0 h_5).1) ((rg_eq hg_e1 h_1).2)).1), (Int.le_trans (rg_be h_10 ((rg_eq hg_p0 h_5).1) ((rg_eq hg_e1 h_1).2)).2 (by decide))⟩, by decide, by decide⟩ ?_
      refine q_iconst rfl ?_
      refine v_zret rfl rfl (by decide) ?_
      refine bk_inl ?_
      refine v_if_eq_t (t := 42) rfl (by decide) (by decide) ?_
      refine q_aload_n rfl rfl ?_
      refine q_dup rfl rfl ?_
      refine v_gi (z := 7) (v := o0) rfl rfl rfl (by decide) rfl rfl ((up_n (by decide)).trans ((up_n (by decide)).trans (hid kn_1425))) ?_
      refine q_iconst rfl ?_
      refine v_iadd (v := o0 + 1) rfl rfl ?_
      refine v_pi (z := 7) rfl rfl rfl (by decide) rfl rfl rfl (by decide) ?_
      refine q_vret rfl rfl ?_
      refine bk_inl ?_
      refine q_aload_n rfl rfl ?_
      refine v_bip rfl (by decide) ?_
      refine v_cv rfl rfl rfl rfl (by decide) ⟨⟨rfl, rfl⟩, by decide, rfl⟩ (Nat.le_of_ble_eq_true rfl) (Nat.le_of_ble_eq_true rfl) ?_
      refine q_aload_n rfl rfl ?_
      refine v_cv rfl rfl rfl rfl (by decide) ⟨⟨rfl, rfl⟩, by decide, rfl⟩ (Nat.le_of_ble_eq_true rfl) (Nat.le_of_ble_eq_true rfl) ?_
      refine q_aload_n rfl rfl ?_
      refine v_gi (z := 5) (v := (nx F e1 p0)) rfl rfl rfl (by decide) rfl rfl ((up_n (by decide)).trans ((up_n (by decide)).trans (up_e rfl))) ?_
      refine q_iconst rfl ?_
      refine v_ic_ne_t (t := 12) rfl (by decide) ⟨(ne_rg (rg_be h_10 ((rg_eq hg_p0 h_5).1) ((rg_eq hg_e1 h_1).2)) (by decide)), ⟨(Int.le_trans (by decide) (rg_be h_10 ((rg_eq hg_p0 h_5).1) ((rg_eq hg_e1 h_1).2)).1), (Int.le_trans (rg_be h_10 ((rg_eq hg_p0 h_5).1) ((rg_eq hg_e1 h_1).2)).2 (by decide))⟩, by decide, by decide⟩ ?_
      refine q_iconst rfl ?_
      refine v_zret rfl rfl (by decide) ?_
      refine bk_inl ?_
      refine v_if_eq_t (t := 24) rfl (by decide) (by decide) ?_
      refine q_aload_n rfl rfl ?_
      refine v_cv rfl rfl rfl rfl (by decide) ⟨⟨rfl, rfl⟩, by decide, rfl⟩ (Nat.le_of_ble_eq_true rfl) (Nat.le_of_ble_eq_true rfl) ?_
      refine q_aload_n rfl rfl ?_
      refine v_gi (z := 5) (v := (nx F e1 p0)) rfl rfl rfl (by decide) rfl rfl ((up_n (by decide)).trans ((up_n (by decide)).trans (up_e rfl))) ?_
      refine q_iconst rfl ?_
      refine v_ic_ne_t (t := 12) rfl (by decide) ⟨(ne_rg (rg_be h_10 ((rg_eq hg_p0 h_5).1) ((rg_eq hg_e1 h_1).2)) (by decide)), ⟨(Int.le_trans (by decide) (rg_be h_10 ((rg_eq hg_p0 h_5).1) ((rg_eq hg_e1 h_1).2)).1), (Int.le_trans (rg_be h_10 ((rg_eq hg_p0 h_5).1) ((rg_eq hg_e1 h_1).2)).2 (by decide))⟩, by decide, by decide⟩ ?_
      refine q_iconst rfl ?_
      refine v_zret rfl rfl (by decide) ?_
      refine bk_inl ?_
      refine v_if_eq_t (t := 41) rfl (by decide) (by decide) ?_
      refine q_vret rfl rfl ?_
      refine bk_inl ?_
      refine q_aload_n rfl rfl ?_
      have hI_1426 := iw_41_5 (v := (nx F e1 p0)) hI_1417 ⟨(Int.le_trans (by decide) (rg_be h_10 ((rg_eq hg_p0 h_5).1) ((rg_eq hg_e1 h_1).2)).1), (Int.le_trans (rg_be h_10 ((rg_eq hg_p0 h_5).1) ((rg_eq hg_e1 h_1).2)).2 (by decide))⟩
      have hI_1427 := iw_41_6 (v := 3) hI_1426 ⟨by decide, by decide⟩
      have hI_1428 := iw_41_7 (v := o0 + 1) hI_1427 ⟨by first | exact rgp_l (rg_eq hr_o0 h_8).1 (by decide) | omega, by first | (clear hq0 hq1 hq3 hq4 hq5 hq8 h_1 h_2 h_3 h_4 h_5 h_6 h_7 h_8 h_9 h_10 h_11 h_46 h_65 h_66 h_1381 h_1382 h_1383 h_1384 h_1385 h_1386 h_1391 h_1392 h_1393 h_1394 h_1395 h_1396 h_1397 h_1398 h_1400 h_1413 h_1415 hq6 hq7 h_12 h_21 h_37 h_1399 h_1411; omega) | omega⟩
      have h_1429 : ¬ (up (up (up c_1416 41 5 (nx F e1 p0)) 41 6 3) 41 7 (o0 + 1)) 41 5 = -1 := by rw [show (up (up (up c_1416 41 5 (nx F e1 p0)) 41 6 3) 41 7 (o0 + 1)) 41 5 = (nx F e1 p0) from ((up_n (by decide)).trans ((up_n (by decide)).trans (up_e rfl)))]; omega
      refine v_cv rfl rfl rfl rfl (by decide) ⟨⟨rfl, rfl⟩, by decide, rfl⟩ (Nat.le_of_ble_eq_true rfl) (Nat.le_of_ble_eq_true rfl) (n_174 hI_1428 (by omega) ?_)
      refine bk_inl ?_
      refine q_aload_n rfl rfl ?_
      refine v_bip rfl (by decide) ?_
      refine v_cv rfl rfl rfl rfl (by decide) ⟨⟨rfl, rfl⟩, by decide, rfl⟩ (Nat.le_of_ble_eq_true rfl) (Nat.le_of_ble_eq_true rfl) ?_
      refine q_aload_n rfl rfl ?_
      refine v_cv rfl rfl rfl rfl (by decide) ⟨⟨rfl, rfl⟩, by decide, rfl⟩ (Nat.le_of_ble_eq_true rfl) (Nat.le_of_ble_eq_true rfl) ?_
      refine q_aload_n rfl rfl ?_
      refine v_gi (z := 5) (v := (nx F e1 p0)) rfl rfl rfl (by decide) rfl rfl ((up_n (by decide)).trans ((up_n (by decide)).trans (up_e rfl))) ?_
      refine q_iconst rfl ?_
      refine v_ic_ne_t (t := 12) rfl (by decide) ⟨(ne_rg (rg_be h_10 ((rg_eq hg_p0 h_5).1) ((rg_eq hg_e1 h_1).2)) (by decide)), ⟨(Int.le_trans (by decide) (rg_be h_10 ((rg_eq hg_p0 h_5).1) ((rg_eq hg_e1 h_1).2)).1), (Int.le_trans (rg_be h_10 ((rg_eq hg_p0 h_5).1) ((rg_eq hg_e1 h_1).2)).2 (by decide))⟩, by decide, by decide⟩ ?_
      refine q_iconst rfl ?_
      refine v_zret rfl rfl (by decide) ?_
      refine bk_inl ?_
      refine v_if_eq_t (t := 24) rfl (by decide) (by decide) ?_
      refine q_aload_n rfl rfl ?_
      refine v_cv rfl rfl rfl rfl (by decide) ⟨⟨rfl, rfl⟩, by decide, rfl⟩ (Nat.le_of_ble_eq_true rfl) (Nat.le_of_ble_eq_true rfl) ?_
      refine q_aload_n rfl rfl ?_
      refine v_gi (z := 5) (v := (nx F e1 p0)) rfl rfl rfl (by decide) rfl rfl ((up_n (by decide)).trans ((up_n (by decide)).trans (up_e rfl))) ?_
      refine q_iconst rfl ?_
      refine v_ic_ne_t (t := 12) rfl (by decide) ⟨(ne_rg (rg_be h_10 ((rg_eq hg_p0 h_5).1) ((rg_eq hg_e1 h_1).2)) (by decide)), ⟨(Int.le_trans (by decide) (rg_be h_10 ((rg_eq hg_p0 h_5).1) ((rg_eq hg_e1 h_1).2)).1), (Int.le_trans (rg_be h_10 ((rg_eq hg_p0 h_5).1) ((rg_eq hg_e1 h_1).2)).2 (by decide))⟩, by decide, by decide⟩ ?_
      refine q_iconst rfl ?_
      refine v_zret rfl rfl (by decide) ?_
      refine bk_inl ?_
      refine v_if_eq_t (t := 41) rfl (by decide) (by decide) ?_
      refine q_vret rfl rfl ?_
      refine bk_inl ?_
      refine q_aload_n rfl rfl ?_
      have h_1430 : ¬ (up (up (up c_1416 41 5 (nx F e1 p0)) 41 6 3) 41 7 (o0 + 1)) 41 5 = -1 := by rw [show (up (up (up c_1416 41 5 (nx F e1 p0)) 41 6 3) 41 7 (o0 + 1)) 41 5 = (nx F e1 p0) from ((up_n (by decide)).trans ((up_n (by decide)).trans (up_e rfl)))]; omega
      refine v_cv rfl rfl rfl rfl (by decide) ⟨⟨rfl, rfl⟩, by decide, rfl⟩ (Nat.le_of_ble_eq_true rfl) (Nat.le_of_ble_eq_true rfl) (n_174 hI_1428 (by omega) ?_)
      refine bk_inl ?_
      refine q_aload_n rfl rfl ?_
      refine v_bip rfl (by decide) ?_
      refine v_cv rfl rfl rfl rfl (by decide) ⟨⟨rfl, rfl⟩, by decide, rfl⟩ (Nat.le_of_ble_eq_true rfl) (Nat.le_of_ble_eq_true rfl) ?_
      refine q_aload_n rfl rfl ?_
      refine v_cv rfl rfl rfl rfl (by decide) ⟨⟨rfl, rfl⟩, by decide, rfl⟩ (Nat.le_of_ble_eq_true rfl) (Nat.le_of_ble_eq_true rfl) ?_
      refine q_aload_n rfl rfl ?_
      refine v_gi (z := 5) (v := (nx F e1 p0)) rfl rfl rfl (by decide) rfl rfl ((up_n (by decide)).trans ((up_n (by decide)).trans (up_e rfl))) ?_
      refine q_iconst rfl ?_
      refine v_ic_ne_t (t := 12) rfl (by decide) ⟨(ne_rg (rg_be h_10 ((rg_eq hg_p0 h_5).1) ((rg_eq hg_e1 h_1).2)) (by decide)), ⟨(Int.le_trans (by decide) (rg_be h_10 ((rg_eq hg_p0 h_5).1) ((rg_eq hg_e1 h_1).2)).1), (Int.le_trans (rg_be h_10 ((rg_eq hg_p0 h_5).1) ((rg_eq hg_e1 h_1).2)).2 (by decide))⟩, by decide, by decide⟩ ?_
      refine q_iconst rfl ?_
      refine v_zret rfl rfl (by decide) ?_
      refine bk_inl ?_
      refine v_if_eq_t (t := 24) rfl (by decide) (by decide) ?_
      refine q_aload_n rfl rfl ?_
      refine v_cv rfl rfl rfl rfl (by decide) ⟨⟨rfl, rfl⟩, by decide, rfl⟩ (Nat.le_of_ble_eq_true rfl) (Nat.le_of_ble_eq_true rfl) ?_
      refine q_aload_n rfl rfl ?_
      refine v_gi (z := 5) (v := (nx F e1 p0)) rfl rfl rfl (by decide) rfl rfl ((up_n (by decide)).trans ((up_n (by decide)).trans (up_e rfl))) ?_
      refine q_iconst rfl ?_
      refine v_ic_ne_t (t := 12) rfl (by decide) ⟨(ne_rg (rg_be h_10 ((rg_eq hg_p0 h_5).1) ((rg_eq hg_e1 h_1).2)) (by decide)), ⟨(Int.le_trans (by decide) (rg_be h_10 ((rg_eq hg_p0 h_5).1) ((rg_eq hg_e1 h_1).2)).1), (Int.le_trans (rg_be h_10 ((rg_eq hg_p0 h_5).1) ((rg_eq hg_e1 h_1).2)).2 (by decide))⟩, by decide, by decide⟩ ?_
      refine q_iconst rfl ?_
      refine v_zret rfl rfl (by decide) ?_
      refine bk_inl ?_
      refine v_if_eq_t (t := 41) rfl (by decide) (by decide) ?_
      refine q_vret rfl rfl ?_
      refine bk_inl ?_
      refine q_aload_n rfl rfl ?_
      refine q_dup rfl rfl ?_
      refine v_gi (z := 7) (v := o0 + 1) rfl rfl rfl (by decide) rfl rfl (up_e rfl) ?_
      refine q_iconst rfl ?_
      refine v_isub (v := o0) rfl (by first | (clear ha2 hq0 hq1 hq2 hq3 hq4 hq5 hq8 h_1 h_2 h_3 h_4 h_5 h_6 h_7 h_8 h_9 h_10 h_11 h_46 h_65 h_66 h_1381 h_1382 h_1383 h_1384 h_1385 h_1386 h_1391 h_1392 h_1393 h_1394 h_1395 h_1396 h_1397 h_1398 h_1400 h_1413 h_1415 hq6 hq7 h_12 h_21 h_37 h_1399 h_1411; omega) | omega) ?_
      refine v_pi (z := 7) rfl rfl rfl (by decide) rfl rfl rfl (by decide) ?_
      refine q_aload_n rfl rfl ?_
      refine q_iload_n rfl rfl ?_
      refine q_iconst rfl ?_
      refine v_cv rfl rfl rfl rfl (by decide) ⟨⟨rfl, rfl⟩, by decide, rfl⟩ (Nat.le_of_ble_eq_true rfl) (Nat.le_of_ble_eq_true rfl) ?_
      refine q_aload_n rfl rfl ?_
      refine v_cv rfl rfl rfl rfl (by decide) ⟨⟨rfl, rfl⟩, by decide, rfl⟩ (Nat.le_of_ble_eq_true rfl) (Nat.le_of_ble_eq_true rfl) ?_
      refine q_aload_n rfl rfl ?_
      refine v_gi (z := 5) (v := (nx F e1 p0)) rfl rfl rfl (by decide) rfl rfl ((up_n (by decide)).trans ((up_n (by decide)).trans ((up_n (by decide)).trans (up_e rfl)))) ?_
      refine q_iconst rfl ?_
      refine v_ic_ne_t (t := 12) rfl (by decide) ⟨(ne_rg (rg_be h_10 ((rg_eq hg_p0 h_5).1) ((rg_eq hg_e1 h_1).2)) (by decide)), ⟨(Int.le_trans (by decide) (rg_be h_10 ((rg_eq hg_p0 h_5).1) ((rg_eq hg_e1 h_1).2)).1), (Int.le_trans (rg_be h_10 ((rg_eq hg_p0 h_5).1) ((rg_eq hg_e1 h_1).2)).2 (by decide))⟩, by decide, by decide⟩ ?_
      refine q_iconst rfl ?_
      refine v_zret rfl rfl (by decide) ?_
      refine bk_inl ?_
      refine v_if_ne_f (t := 8) rfl (by decide) (by decide) ?_
      refine q_vret rfl rfl ?_
      refine bk_inl ?_
      refine q_vret rfl rfl ?_
      refine bk_inl ?_
      refine q_goto (t := 154) rfl (by decide) ?_
      refine q_vret rfl rfl ?_
      have hI_1431 := iw_41_7 (v := o0) hI_1428 ⟨(rg_eq hr_o0 h_8).1, (rg_eq hr_o0 h_8).2⟩
      have h_1432 : (up (up (up (up c_1416 41 5 (nx F e1 p0)) 41 6 3) 41 7 (o0 + 1)) 41 7 o0) 41 5 = (nx F e1 p0) := ((up_n (by decide)).trans ((up_n (by decide)).trans ((up_n (by decide)).trans (up_e rfl))))
      have h_1433 : (up (up (up (up c_1416 41 5 (nx F e1 p0)) 41 6 3) 41 7 (o0 + 1)) 41 7 o0) 41 4 = (nx F e1 p0) := ((up_n (by decide)).trans ((up_n (by decide)).trans ((up_n (by decide)).trans ((up_n (by decide)).trans (hz_1419)))))
      have h_1434 : (up (up (up (up c_1416 41 5 (nx F e1 p0)) 41 6 3) 41 7 (o0 + 1)) 41 7 o0) 41 6 = 3 := ((up_n (by decide)).trans ((up_n (by decide)).trans (up_e rfl)))
      have kn_1435 : Hid (c_1401 41 29 = n0) := (hF_1403 41 29 (fun h => absurd h.2 (ni rfl))).trans (hr_n0)
      have kn_1436 : Hid (c_1406 41 29 = n0) := (hF_1408 41 29 (fun h => absurd h.2 (ni rfl))).trans (hid kn_1435)
      have kn_1437 : Hid (c_1416 41 29 = n0) := (hF_1418 41 29 (fun h => absurd h.2 (ni rfl))).trans (hid kn_1436)
      have h_1438 : (up (up (up (up c_1416 41 5 (nx F e1 p0)) 41 6 3) 41 7 (o0 + 1)) 41 7 o0) 41 29 = n0 := ((up_n (by decide)).trans ((up_n (by decide)).trans ((up_n (by decide)).trans ((up_n (by decide)).trans (hid kn_1437)))))
      have h_1439 : (up (up (up (up c_1416 41 5 (nx F e1 p0)) 41 6 3) 41 7 (o0 + 1)) 41 7 o0) 41 7 = o0 := (up_e rfl)
      have h_1440 : (up (up (up (up c_1416 41 5 (nx F e1 p0)) 41 6 3) 41 7 (o0 + 1)) 41 7 o0) 41 29 = n0 := ((up_n (by decide)).trans ((up_n (by decide)).trans ((up_n (by decide)).trans ((up_n (by decide)).trans (hid kn_1437)))))
      exact K (up (up (up (up c_1416 41 5 (nx F e1 p0)) 41 6 3) 41 7 (o0 + 1)) 41 7 o0)  hI_1431 (fun a j hm => (up_b (Decidable.or_iff_not_imp_left.mpr (fun h1 h2 => hm (Or.inr (Or.inr (Or.inr (Or.inl ⟨Decidable.not_not.mp h1, h2⟩))))))).trans ((up_b (Decidable.or_iff_not_imp_left.mpr (fun h1 h2 => hm (Or.inr (Or.inr (Or.inr (Or.inl ⟨Decidable.not_not.mp h1, h2⟩))))))).trans ((up_b (Decidable.or_iff_not_imp_left.mpr (fun h1 h2 => hm (Or.inr (Or.inr (Or.inl ⟨Decidable.not_not.mp h1, h2⟩)))))).trans ((up_b (Decidable.or_iff_not_imp_left.mpr (fun h1 h2 => hm (Or.inr (Or.inl ⟨Decidable.not_not.mp h1, h2⟩))))).trans ((hF_1418 a j (fun h => hm (Or.inl h))).trans ((hF_1408 a j (fun h => hm (Or.inl h))).trans (hF_1403 a j (fun h => hm (Or.inl h))))))))) (rt_i2 ⟨⟨by first | (clear ha2 hq0 hq1 hq2 hq3 hq4 hq5 hq8 h_1 h_2 h_3 h_4 h_5 h_6 h_7 h_8 h_9 h_10 h_11 h_46 h_65 h_66 h_1381 h_1383 h_1384 h_1385 h_1386 h_1391 h_1392 h_1393 h_1394 h_1395 h_1396 h_1397 h_1398 h_1400 h_1413 h_1415 hq6 hq7 h_12 h_21 h_37 h_1399 h_1411; omega) | omega, by first | (clear ha2 hq0 hq1 hq2 hq3 hq4 hq5 hq8 h_1 h_2 h_3 h_4 h_5 h_6 h_7 h_8 h_9 h_10 h_11 h_46 h_65 h_66 h_1382 h_1383 h_1384 h_1385 h_1386 h_1391 h_1392 h_1393 h_1394 h_1395 h_1396 h_1397 h_1398 h_1400 h_1413 h_1415 hq6 hq7 h_12 h_21 h_37 h_1399 h_1411; omega) | omega⟩, by first | (clear ha2 hq0 hq1 hq2 hq3 hq4 hq5 hq8 h_1 h_2 h_3 h_4 h_5 h_6 h_7 h_8 h_9 h_10 h_11 h_46 h_65 h_66 h_1381 h_1382 h_1383 h_1384 h_1385 h_1391 h_1392 h_1393 h_1394 h_1395 h_1396 h_1397 h_1398 h_1400 h_1413 h_1415 hq6 hq7 h_12 h_21 h_37 h_1399 h_1411; omega) | omega, by first | (clear ha2 hq0 hq1 hq2 hq3 hq4 hq5 hq8 h_1 h_2 h_3 h_4 h_6 h_7 h_8 h_9 h_11 h_46 h_65 h_66 h_1381 h_1382 h_1383 h_1384 h_1385 h_1391 h_1392 h_1393 h_1394 h_1395 h_1396 h_1397 h_1398 h_1400 h_1413 h_1415 hq6 hq7 h_12 h_21 h_37 h_1399 h_1411; omega) | omega, by first | (clear ha2 hq0 hq1 hq2 hq3 hq4 hq5 hq8 h_1 h_2 h_3 h_4 h_5 h_6 h_7 h_8 h_9 h_10 h_11 h_46 h_65 h_66 h_1383 h_1384 h_1385 h_1386 h_1391 h_1392 h_1393 h_1394 h_1395 h_1396 h_1397 h_1398 h_1400 h_1413 h_1415 hq6 hq7 h_12 h_21 h_37 h_1399 h_1411; omega) | omega⟩) (Or.inr (Or.inl (by first | (clear ha2 hq0 hq1 hq2 hq3 hq4 hq5 hq8 h_1 h_2 h_3 h_4 h_5 h_6 h_7 h_8 h_9 h_10 h_11 h_46 h_65 h_66 h_1381 h_1383 h_1384 h_1385 h_1386 h_1391 h_1392 h_1393 h_1394 h_1395 h_1396 h_1397 h_1398 h_1400 h_1413 h_1415 hq6 hq7 h_12 h_21 h_37 h_1399 h_1411; omega) | omega))) (by first | (clear ha2 hq0 hq1 hq3 hq4 hq5 hq8 h_1 h_2 h_3 h_4 h_5 h_6 h_7 h_8 h_9 h_10 h_11 h_46 h_65 h_66 h_1381 h_1382 h_1383 h_1384 h_1385 h_1386 h_1391 h_1392 h_1393 h_1394 h_1395 h_1396 h_1397 h_1398 h_1400 h_1413 h_1415 hq6 hq7 h_12 h_21 h_37 h_1399 h_1411; omega) | omega) (fun hz => absurd hz (by omega))

