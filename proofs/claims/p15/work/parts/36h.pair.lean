/-! ===== class and reference side by side 9 ===== -/
set_option maxRecDepth 100000 in
set_option maxHeartbeats 4000000 in
theorem L_14_f {sc : List Int32} {e eg : Int} {d dh u ug P Q P2 Q2 A : Nat} {c m m9 : ME} {a2 e1 f0 g0 p0 n0 o0 : Int} {F H : Int → Int} {Z : AR → Prop} (hI : Iv u e P2 Q2 c) (hJ : Iv ug eg P Q m) (hJ9 : Iv ug eg P Q m9) (hA : A = 13 ∨ A = 25) (ha2 : 0 ≤ a2 ∧ a2 ≤ 6) (hq0 : (f0 = 0)) (hq1 : (g0 = (-1))) (hq2 : (o0 = a2)) (hq3 : (n0 ≤ p0)) (hq4 : (p0 ≤ e1)) (hq5 : (e1 ≤ 150)) (hq6 : ((nx F e1 p0) ≥ e1) ∨ ((F (nx F e1 p0)) < 48) ∨ ((F (nx F e1 p0)) > 57)) (hq7 : ((nx F e1 p0) ≥ e1) ∨ ((F (nx F e1 p0)) < 40) ∨ ((F (nx F e1 p0)) > 40)) (hq8 : ((wd1_0 F (nx F e1 p0) (ln F e1 (nx F e1 p0))) = 9)) (hg_e1 : m 1 1 = e1) (hr_e1 : c 41 3 = e1) (hg_f0 : m 1 4 = f0) (hg_g0 : m 1 5 = g0) (hg_p0 : m 1 2 = p0) (hg_n0 : m (A + 7) 5 = n0) (hr_n0 : c 41 29 = n0) (hr_o0 : c 41 7 = o0) (hF : ∀ j : Int, m 2 j = F j) (hH : ∀ j : Int, c 43 j = H j) (hU : Ub F H) (hRt : Rt m c) (hr0 : Ce n0 (m (A + 9)) (c 50) (c 51)) (H13 : ∀ {d9 : Nat} {c m m9 : ME} {e1 f0 g0 p0 n0 o0 : Int} {Z : AR → Prop}, d ≤ d9 → a2 + 1 ≤ 6 → (Iv u e P2 Q2 c) → (Iv ug eg P Q m) → (Iv ug eg P Q m9) → (0 ≤ (a2 + 1) ∧ (a2 + 1) ≤ 6) → ((f0 = 0)) → ((g0 = (-1))) → ((o0 = (a2 + 1))) → ((n0 ≤ p0)) → ((p0 ≤ e1)) → ((e1 ≤ 150)) → (m 1 1 = e1) → (c 41 3 = e1) → (m 1 4 = f0) → (m 1 5 = g0) → (m 1 2 = p0) → (m (A + 7) 5 = n0) → (c 41 29 = n0) → (c 41 7 = o0) → (∀ j : Int, m 2 j = F j) → (∀ j : Int, c 43 j = H j) → (Ub F H) → (Rt m c) → (Ce n0 (m (A + 9)) (c 50) (c 51)) → (Wp sc (dh + 33) 13 0 [(0, .ref (A + 7)), (1, .ref 1), (2, vi (a2 + 1))] [] (Wd P Q P P m) 0 0 (fun q => q = (.inl (none), Wd P Q P P m9, 0, 0))) → (∀ (c2 : ME), Iv u e P2 Q2 c2 → (∀ (a : Nat) (j : Int), ¬ ((a = 41 ∧ j = 4) ∨ (a = 41 ∧ j = 5) ∨ (a = 41 ∧ j = 6) ∨ (a = 41 ∧ j = 7) ∨ (a = 41 ∧ j = 29) ∨ a = 50 ∨ a = 51) → c2 a j = c a j) → (Rt m9 c2) → ((m9 1 4 < 0) ∨ (m9 1 4 > 0) ∨ (m9 (A + 7) 5 = c2 41 29 ∧ c2 41 29 + p0 ≤ m9 1 2 + n0 ∧ m9 1 2 ≤ e1 ∧ m9 1 2 ≥ p0)) → ((c2 41 7 = (a2 + 1))) → (m9 1 4 = 0 → Ce (c2 41 29) (m9 (A + 9)) (c2 50) (c2 51)) → Z (.inl (none), Wd P2 Q2 P2 P2 c2, 0, 0)) → Wp sc (d9 + 32) 174 0 [(0, .ref 41)] [] (Wd P2 Q2 P2 P2 c) 0 0 Z) (hG : Wp sc (dh + 34) 14 0 [(0, .ref (A + 7)), (1, .ref 1), (2, vi a2)] [] (Wd P Q P P m) 0 0 (fun q => q = (.inl (none), Wd P Q P P m9, 0, 0))) (K : ∀ (c2 : ME), Iv u e P2 Q2 c2 → (∀ (a : Nat) (j : Int), ¬ ((a = 41 ∧ j = 4) ∨ (a = 41 ∧ j = 5) ∨ (a = 41 ∧ j = 6) ∨ (a = 41 ∧ j = 7) ∨ (a = 41 ∧ j = 29) ∨ a = 50 ∨ a = 51) → c2 a j = c a j) → (Rt m9 c2) → ((m9 1 4 < 0) ∨ (m9 1 4 > 0) ∨ (m9 (A + 7) 5 = c2 41 29 ∧ c2 41 29 + p0 ≤ m9 1 2 + n0 ∧ m9 1 2 ≤ e1 ∧ m9 1 2 ≥ p0)) → ((c2 41 7 = a2)) → (m9 1 4 = 0 → Ce (c2 41 29) (m9 (A + 9)) (c2 50) (c2 51)) → Z (.inl (none), Wd P2 Q2 P2 P2 c2, 0, 0)) : Wp sc (d + 34) 176 0 [(0, .ref 41)] [] (Wd P2 Q2 P2 P2 c) 0 0 Z := by
  have hP := iv_P hJ
  have hQ := iv_Q hJ
  have h_1 := ir_1_1 hJ
  have h_2 := ir_41_3 hI
  have h_3 := ir_1_4 hJ
  have h_4 := ir_1_5 hJ
  have h_5 := ir_1_2 hJ
  have h_6 := ir_p7_5 hJ hA
  have h_7 := ir_41_29 hI
  have h_8 := ir_41_7 hI
  refine gh hG ?_
  refine q_aload_n rfl rfl ?_
  have h_9 : -2147483648 ≤ (F p0) ∧ (F p0) ≤ 2147483647 := by rw [← hF p0]; exact ir_2 hJ p0
  have h_10 := nx_be (b := F) (e := e1) (a := p0) (by first | (clear ha2 hq0 hq1 hq2 hq3 hq5 hq8 h_1 h_2 h_3 h_4 h_5 h_6 h_7 h_8 h_9 hq6 hq7; omega) | omega)
  have h_11 : -2147483648 ≤ (F (nx F e1 p0)) ∧ (F (nx F e1 p0)) ≤ 2147483647 := by rw [← hF (nx F e1 p0)]; exact ir_2 hJ (nx F e1 p0)
  have h_12 := nx_n (b := F) (e := e1) (a := p0)
  refine v_cv rfl rfl rfl rfl (by decide) ⟨⟨rfl, rfl⟩, by decide, rfl⟩ (Nat.le_of_ble_eq_true rfl) (Nat.le_of_ble_eq_true rfl) (f_6 (e1 := e1) (a9 := p0) (B := F) (r8 := (nx F e1 p0)) hJ ((hg_e1)) ((hg_p0)) (fun j => hF j) rfl (fun c_13 hI_14 hF_15 h_16 hz_17 => by exfalso; omega) (fun c_18 hI_19 hF_20 h_21 hz_22 => ?_))
  refine bk_inl ?_
  refine v_if_eq_t (t := 19) rfl (by decide) (by decide) ?_
  refine q_aload_n rfl rfl ?_
  have kn_23 : Hid (c_18 1 1 = e1) := (hF_20 1 1 (fun h => absurd h.2 (ni rfl))).trans (hg_e1)
  refine v_cv rfl rfl rfl rfl (by decide) ⟨⟨rfl, rfl⟩, by decide, rfl⟩ (Nat.le_of_ble_eq_true rfl) (Nat.le_of_ble_eq_true rfl) (f_3 (e1 := e1) (a9 := (nx F e1 p0)) (B := F) (r8 := (nx F e1 p0)) hI_19 ((hid kn_23)) ((hz_22)) (fun j => (hF_20 2 j (fun h => absurd h.1 (nn rfl))).trans (hF j)) (nx_z (by omega)) (fun c_24 hI_25 hF_26 hz_27 => ?_))
  refine bk_inl ?_
  refine q_istore_n rfl (by decide) ?_
  refine q_aload_n rfl rfl ?_
  refine q_ldc_s rfl rfl rfl (by decide) ?_
  have kn_28 : Hid (c_24 1 1 = e1) := (hF_26 1 1 (fun h => absurd h.2 (ni rfl))).trans (hid kn_23)
  refine v_cv rfl rfl rfl rfl (by decide) ⟨⟨rfl, rfl⟩, by decide, rfl⟩ (Nat.le_of_ble_eq_true rfl) (Nat.le_of_ble_eq_true rfl) (f_4_0 (e1 := e1) (a9 := (nx F e1 p0)) (B := F) (r8 := (nx F e1 p0)) hI_25 ((hid kn_28)) ((hz_27)) (fun j => ((hF_26 2 j (fun h => absurd h.1 (nn rfl))).trans (hF_20 2 j (fun h => absurd h.1 (nn rfl)))).trans (hF j)) (nx_z (by omega)) (fun c_29 hI_30 hF_31 h_32 hz_33 => by exfalso; omega) (fun c_34 hI_35 hF_36 h_37 hz_38 => ?_))
  refine bk_inl ?_
  refine q_iconst rfl ?_
  refine v_ic_eq_t (t := 38) rfl (by decide) (by decide) ?_
  refine q_iconst rfl ?_
  refine q_istore rfl (by decide) ?_
  refine q_iload rfl rfl ?_
  refine v_if_eq_t (t := 50) rfl (by decide) (by decide) ?_
  refine q_aload_n rfl rfl ?_
  refine q_ldc_s rfl rfl rfl (by decide) ?_
  have kn_39 : Hid (c_34 1 1 = e1) := (hF_36 1 1 (fun h => absurd h.2 (ni rfl))).trans (hid kn_28)
  have kn_40 : Hid (c_18 1 4 = f0) := (hF_20 1 4 (fun h => absurd h.2 (ni rfl))).trans (hg_f0)
  have kn_41 : Hid (c_24 1 4 = f0) := (hF_26 1 4 (fun h => absurd h.2 (ni rfl))).trans (hid kn_40)
  have kn_42 : Hid (c_34 1 4 = f0) := (hF_36 1 4 (fun h => absurd h.2 (ni rfl))).trans (hid kn_41)
  have kn_43 : Hid (c_18 1 5 = g0) := (hF_20 1 5 (fun h => absurd h.2 (ni rfl))).trans (hg_g0)
  have kn_44 : Hid (c_24 1 5 = g0) := (hF_26 1 5 (fun h => absurd h.2 (ni rfl))).trans (hid kn_43)
  have kn_45 : Hid (c_34 1 5 = g0) := (hF_36 1 5 (fun h => absurd h.2 (ni rfl))).trans (hid kn_44)
  have h_46 := ln_be (b := F) (e := e1) (a := (nx F e1 p0)) (by first | (clear ha2 hq0 hq1 hq2 hq3 hq4 hq5 hq8 h_1 h_2 h_3 h_4 h_5 h_6 h_7 h_8 h_9 h_11 hq6 hq7 h_12 h_21 h_37; omega) | omega)
  refine v_cv rfl rfl rfl rfl (by decide) ⟨⟨rfl, rfl⟩, by decide, rfl⟩ (Nat.le_of_ble_eq_true rfl) (Nat.le_of_ble_eq_true rfl) (f_10_1 (e1 := e1) (a9 := (nx F e1 p0)) (f9 := f0) (p9 := g0) (B := F) (r8 := (nx F e1 p0)) (L8 := (ln F e1 (nx F e1 p0))) (W8 := (wd1_0 F (nx F e1 p0) (ln F e1 (nx F e1 p0)))) hI_35 ((hid kn_39)) ((hz_38)) ((hid kn_42)) ((hid kn_45)) (fun j => ((hF_36 2 j (fun h => absurd h.1 (nn rfl))).trans ((hF_26 2 j (fun h => absurd h.1 (nn rfl))).trans (hF_20 2 j (fun h => absurd h.1 (nn rfl))))).trans (hF j)) (nx_z (by omega)) rfl rfl (fun c_47 hI_48 hF_49 h_50 hz_51 hz_52 hz_53 => by exfalso; omega) (fun c_54 hI_55 hF_56 h_57 h_58 hz_59 hz_60 hz_61 => by exfalso; first | (clear ha2 hq0 hq1 hq2 hq3 hq4 hq5 h_1 h_2 h_3 h_4 h_5 h_6 h_7 h_8 h_9 h_10 h_11 h_46 hq6 hq7 h_12 h_21 h_37; omega) | omega) (fun c_62 hI_63 hF_64 h_65 h_66 hz_67 hz_68 hz_69 => ?_))
  refine bk_inl ?_
  refine q_istore rfl (by decide) ?_
  refine q_iload rfl rfl ?_
  refine q_iconst rfl ?_
  refine v_ic_eq_f (t := 82) rfl (by decide) ⟨by first | (clear ha2 hq0 hq1 hq2 hq3 hq4 hq5 h_1 h_2 h_3 h_4 h_5 h_6 h_7 h_8 h_9 h_10 h_11 h_46 h_65 h_66 hq6 hq7 h_12 h_21 h_37; omega) | omega, ⟨by first | (clear ha2 hq0 hq1 hq2 hq3 hq4 hq5 h_1 h_2 h_3 h_4 h_5 h_6 h_7 h_8 h_9 h_10 h_11 h_46 h_65 h_66 hq6 hq7 h_12 h_21 h_37; omega) | omega, by first | (clear ha2 hq0 hq1 hq2 hq3 hq4 hq5 h_1 h_2 h_3 h_4 h_5 h_6 h_7 h_8 h_9 h_10 h_11 h_46 h_65 h_66 hq6 hq7 h_12 h_21 h_37; omega) | omega⟩, by decide, by decide⟩ ?_
  refine q_iload rfl rfl ?_
  refine v_bip rfl (by decide) ?_
  refine v_ic_ge_t (t := 82) rfl (by decide) ⟨by decide, by first | (clear ha2 hq0 hq1 hq2 hq3 hq4 hq5 h_1 h_2 h_3 h_4 h_5 h_6 h_7 h_8 h_9 h_10 h_11 h_46 h_65 h_66 hq6 hq7 h_12 h_21 h_37; omega) | omega, by first | (clear ha2 hq0 hq1 hq2 hq3 hq4 hq5 h_1 h_2 h_3 h_4 h_5 h_6 h_7 h_8 h_9 h_10 h_11 h_46 h_65 h_66 hq6 hq7 h_12 h_21 h_37; omega) | omega⟩ ?_
  refine q_iload_n rfl rfl ?_
  refine v_bip rfl (by decide) ?_
  by_cases h_70 : a2 < 6
  · refine v_ic_lt_t (t := 94) rfl (by decide) ⟨(Int.le_trans (by decide) ha2.1), h_70, by decide⟩ ?_
    refine q_aload_n rfl rfl ?_
    refine v_cv rfl rfl rfl rfl (by decide) ⟨⟨rfl, rfl⟩, by decide, rfl⟩ (Nat.le_of_ble_eq_true rfl) (Nat.le_of_ble_eq_true rfl) ?_
    refine q_aload_n rfl rfl ?_
    refine v_gi (z := 4) (v := 0) rfl rfl rfl (by decide) rfl rfl (hz_68) ?_
    refine v_if_ne_f (t := 11) rfl (by decide) (by decide) ?_
    refine q_iconst rfl ?_
    refine q_goto (t := 12) rfl (by decide) ?_
    refine v_zret rfl rfl (by decide) ?_
    refine bk_inl ?_
    refine v_if_ne_t (t := 102) rfl (by decide) (by decide) ?_
    refine q_iload rfl rfl ?_
    refine v_if_eq_t (t := 124) rfl (by decide) (by decide) ?_
    refine q_aload_n rfl rfl ?_
    refine q_ldc_s rfl rfl rfl (by decide) ?_
    refine v_cv rfl rfl rfl rfl (by decide) ⟨⟨rfl, rfl⟩, by decide, rfl⟩ (Nat.le_of_ble_eq_true rfl) (Nat.le_of_ble_eq_true rfl) (fn_of (s_11 hI_63 (q := 3) (nt := 1) (by decide) (by decide) (by decide) (fun c_71 hI_72 hF_73 => ?_)))
    intro hG_74
    refine bk_inl ?_
    refine q_aload_n rfl rfl ?_
    refine q_aload_n rfl rfl ?_
    refine q_iload_n rfl rfl ?_
    refine q_iconst rfl ?_
    refine v_iadd (v := a2 + 1) rfl rfl ?_
    have h_75 := ir_1_4 hI_72
    by_cases h_76 : c_71 1 4 = 0
    · skip
      refine v_cv rfl rfl rfl (ck_p7 hA) (a68 hA rfl) ⟨⟨rfl, rfl⟩, by decide, rfl⟩ (Nat.le_of_ble_eq_true rfl) (Nat.le_of_ble_eq_true rfl) (fn_of (r_13 (a2 := a2 + 1) hI_72 hA (show 0 ≤ a2 + 1 ∧ a2 + 1 ≤ 6 from ⟨by first | exact rgp_l ha2.1 (by decide) | omega, by first | (clear ha2 hq0 hq1 hq2 hq3 hq4 hq5 hq8 h_1 h_2 h_3 h_4 h_5 h_6 h_7 h_8 h_9 h_10 h_11 h_46 h_65 h_66 h_75 h_76 hq6 hq7 h_12 h_21 h_37; omega) | omega⟩) (fun c_77 hI_78 hF_79 => ?_)))
      intro hG_80
      refine bk_inl ?_
      refine q_aload_n rfl rfl ?_
      refine q_ldc_s rfl rfl rfl (by decide) ?_
      have h_81 := ir_1_4 hI_78
      by_cases h_82 : c_77 1 4 = 0
      · skip
        refine v_cv rfl rfl rfl rfl (by decide) ⟨⟨rfl, rfl⟩, by decide, rfl⟩ (Nat.le_of_ble_eq_true rfl) (Nat.le_of_ble_eq_true rfl) (fn_of (s_11 hI_78 (q := 4) (nt := 1) (by decide) (by decide) (by decide) (fun c_83 hI_84 hF_85 => ?_)))
        intro hG_86
        refine bk_inl ?_
        refine q_aload_n rfl rfl ?_
        refine q_aload_n rfl rfl ?_
        refine q_iload_n rfl rfl ?_
        refine q_iconst rfl ?_
        refine v_iadd (v := a2 + 1) rfl rfl ?_
        have h_87 := ir_1_4 hI_84
        by_cases h_88 : c_83 1 4 = 0
        · skip
          refine v_cv rfl rfl rfl (ck_p7 hA) (a68 hA rfl) ⟨⟨rfl, rfl⟩, by decide, rfl⟩ (Nat.le_of_ble_eq_true rfl) (Nat.le_of_ble_eq_true rfl) (fn_of (r_13 (a2 := a2 + 1) hI_84 hA (show 0 ≤ a2 + 1 ∧ a2 + 1 ≤ 6 from ⟨by first | exact rgp_l ha2.1 (by decide) | omega, by first | (clear ha2 hq0 hq1 hq2 hq3 hq4 hq5 hq8 h_1 h_2 h_3 h_4 h_5 h_6 h_7 h_8 h_9 h_10 h_11 h_46 h_65 h_66 h_75 h_76 h_81 h_82 h_87 h_88 hq6 hq7 h_12 h_21 h_37; omega) | omega⟩) (fun c_89 hI_90 hF_91 => ?_)))
          intro hG_92
          refine bk_inl ?_
          refine q_aload_n rfl rfl ?_
          refine q_ldc_s rfl rfl rfl (by decide) ?_
          have h_93 := ir_1_4 hI_90
          by_cases h_94 : c_89 1 4 = 0
          · as_aux_lemma =>
              skip
              refine v_cv rfl rfl rfl rfl (by decide) ⟨⟨rfl, rfl⟩, by decide, rfl⟩ (Nat.le_of_ble_eq_true rfl) (Nat.le_of_ble_eq_true rfl) (fn_of (s_11 hI_90 (q := 5) (nt := 1) (by decide) (by decide) (by decide) (fun c_95 hI_96 hF_97 => ?_)))
              intro hG_98
              refine bk_inl ?_
              refine q_aload_n rfl rfl ?_
              refine v_sip rfl (by decide) ?_
              refine q_iload rfl rfl ?_
              refine v_iadd (v := (wd1_0 F (nx F e1 p0) (ln F e1 (nx F e1 p0))) + 2005) rfl (by first | (clear ha2 hq0 hq1 hq2 hq3 hq4 hq5 hq8 h_1 h_2 h_3 h_4 h_5 h_6 h_7 h_8 h_9 h_10 h_11 h_46 h_65 h_66 h_70 h_75 h_76 h_81 h_82 h_87 h_88 h_93 h_94 hq6 hq7 h_12 h_21 h_37; omega) | omega) ?_
              refine v_bip rfl (by decide) ?_
              refine v_isub (v := (wd1_0 F (nx F e1 p0) (ln F e1 (nx F e1 p0))) + 1997) rfl (by first | (clear ha2 hq0 hq1 hq2 hq3 hq4 hq5 hq8 h_1 h_2 h_3 h_4 h_5 h_6 h_7 h_8 h_9 h_10 h_11 h_46 h_65 h_66 h_70 h_75 h_76 h_81 h_82 h_87 h_88 h_93 h_94 hq6 hq7 h_12 h_21 h_37; omega) | omega) ?_
              refine v_cv rfl rfl rfl (ck_p7 hA) (a68 hA rfl) ⟨⟨rfl, rfl⟩, by decide, rfl⟩ (Nat.le_of_ble_eq_true rfl) (Nat.le_of_ble_eq_true rfl) ?_
              refine q_aload_n rfl rfl ?_
              have h_99 := ir_p7_5 hI_90 hA
              have kn_100 : Hid (c_95 (A + 7) 5 = c_89 (A + 7) 5) := hF_97 (A + 7) 5 (fun q => q.elim (fun h => absurd h.1 (np hA rfl rfl)) (fun q => q.elim (fun h => absurd h.1 (np hA rfl rfl)) (fun h => absurd h.1 (np hA rfl rfl))))
              refine v_gi (z := 5) (v := c_89 (A + 7) 5) rfl rfl (ck_p7 hA) (a68 hA rfl) rfl rfl (hid kn_100) ?_
              refine q_aload_n rfl rfl ?_
              refine v_gr (t := (A + 9)) rfl rfl (ck_p7 hA) (a68 hA rfl) rfl ?_
              refine v_al rfl (ck_p9 hA) (a68 hA rfl) (by decide) ?_
              by_cases h_101 : c_89 (A + 7) 5 ≥ 150
              · refine v_ic_ge_t (t := 32) rfl (by decide) ⟨by decide, h_101, by first | (clear ha2 hq0 hq1 hq2 hq3 hq4 hq5 hq8 h_1 h_2 h_3 h_4 h_5 h_6 h_7 h_8 h_9 h_10 h_11 h_46 h_65 h_66 h_70 h_75 h_76 h_81 h_82 h_87 h_88 h_93 h_94 hq6 hq7 h_12 h_21 h_37; omega) | omega⟩ ?_
                refine q_vret rfl rfl ?_
                refine bk_inl ?_
                refine q_vret rfl rfl ?_
                intro hE_102
                have hW : Wd P Q P P c_95 = Wd P Q P P m9 := (Prod.mk.inj (Prod.mk.inj hE_102).2).1
                have h_103 := ir_1_4 hI_96
                have h_104 := ir_1_4 hJ9
                have h_105 : m9 1 4 = c_95 1 4 := wd_fv (z := 4) 4 rfl hW rfl rfl rfl rfl (by decide) rfl ⟨(Int.le_trans (by decide) h_103.1), (Int.le_trans h_103.2 (by decide))⟩ ⟨(Int.le_trans (by decide) h_104.1), (Int.le_trans h_104.2 (by decide))⟩
                have h_106 := ir_1_2 hI_96
                have h_107 := ir_1_2 hJ9
                have h_108 : m9 1 2 = c_95 1 2 := wd_fv (z := 2) 2 rfl hW rfl rfl rfl rfl (by decide) rfl ⟨(Int.le_trans (by decide) h_106.1), (Int.le_trans h_106.2 (by decide))⟩ ⟨(Int.le_trans (by decide) h_107.1), (Int.le_trans h_107.2 (by decide))⟩
                have h_109 := ir_1_5 hI_96
                have h_110 := ir_1_5 hJ9
                have h_111 : m9 1 5 = c_95 1 5 := wd_fv (z := 5) 5 rfl hW rfl rfl rfl rfl (by decide) rfl ⟨(Int.le_trans (by decide) h_109.1), (Int.le_trans h_109.2 (by decide))⟩ ⟨(Int.le_trans (by decide) h_110.1), (Int.le_trans h_110.2 (by decide))⟩
                have h_112 := ir_p7_5 hJ9 hA
                have h_113 : m9 (A + 7) 5 = c_89 (A + 7) 5 := wd_fv (z := 5) 5 rfl hW (ck_p7 hA) (ck_p7 hA) rfl rfl (by omega) (hid kn_100) ⟨by first | (clear ha2 hq0 hq1 hq2 hq3 hq4 hq5 hq8 h_1 h_2 h_3 h_4 h_5 h_6 h_7 h_8 h_9 h_10 h_11 h_46 h_65 h_66 h_70 h_75 h_76 h_81 h_82 h_87 h_88 h_93 h_94 h_99 h_103 h_104 h_105 h_106 h_107 h_108 h_109 h_110 h_111 h_112 hq6 hq7 h_12 h_21 h_37; omega) | omega, by first | (clear ha2 hq0 hq1 hq2 hq3 hq4 hq5 hq8 h_1 h_2 h_3 h_4 h_5 h_6 h_7 h_8 h_9 h_10 h_11 h_46 h_65 h_66 h_70 h_75 h_76 h_81 h_82 h_87 h_88 h_93 h_94 h_101 h_103 h_104 h_105 h_106 h_107 h_108 h_109 h_110 h_111 h_112 hq6 hq7 h_12 h_21 h_37; omega) | omega⟩ ⟨(Int.le_trans (by decide) h_112.1), (Int.le_trans h_112.2 (by decide))⟩
                refine q_aload_n rfl rfl ?_
                refine v_cv rfl rfl rfl rfl (by decide) ⟨⟨rfl, rfl⟩, by decide, rfl⟩ (Nat.le_of_ble_eq_true rfl) (Nat.le_of_ble_eq_true rfl) ?_
                refine q_aload_n rfl rfl ?_
                have h_114 := ir_41_5 hI
                have h_115 := ir_41_4 hI
                have h_116 := ir_41_6 hI
                have h_117 := rt_ok hRt (by omega)
                have hro_hRt := rt_ok hRt (by omega)
                refine v_gi (z := 5) (v := (-1)) rfl rfl rfl (by decide) rfl rfl hro_hRt.2.1 ?_
                refine q_iconst rfl ?_
                refine v_ic_ne_f (t := 12) rfl (by decide) (by decide) ?_
                refine q_iconst rfl ?_
                refine q_goto (t := 13) rfl (by decide) ?_
                refine v_zret rfl rfl (by decide) ?_
                refine bk_inl ?_
                refine v_if_ne_t (t := 8) rfl (by decide) (by decide) ?_
                refine q_aload_n rfl rfl ?_
                have h_118 : -2147483648 ≤ (H (nx F e1 p0)) ∧ (H (nx F e1 p0)) ≤ 2147483647 := by rw [← hH (nx F e1 p0)]; exact ir_43 hI (nx F e1 p0)
                have h_119 := hU (nx F e1 p0) (by omega) (by omega)
                have h_120 := hb_or (b := H) (e := e1) (r := (nx F e1 p0))
                have h_121 := hb_bd (b := H) (e := e1) (r := (nx F e1 p0)) (lo := -2147483648) (hi := 2147483647) h_118 (by decide)
                refine v_cv rfl rfl rfl rfl (by decide) ⟨⟨rfl, rfl⟩, by decide, rfl⟩ (Nat.le_of_ble_eq_true rfl) (Nat.le_of_ble_eq_true rfl) (f_154 (e1 := e1) (a9 := p0) (B := H) (r8 := (nx F e1 p0)) (r := (hb H e1 (nx F e1 p0))) hI ((hr_e1)) (((hro_hRt.2.2.1).trans ((hg_p0)))) (fun j => hH j) ((nx_tr hU (by first | (clear ha2 hq0 hq1 hq2 hq3 hq4 hq5 hq8 h_1 h_2 h_3 h_4 h_6 h_7 h_8 h_9 h_10 h_11 h_46 h_65 h_66 h_70 h_75 h_76 h_81 h_82 h_87 h_88 h_93 h_94 h_99 h_101 h_103 h_104 h_105 h_106 h_107 h_108 h_109 h_110 h_111 h_112 h_113 h_114 h_115 h_116 h_117 hq6 hq7 h_12 h_21 h_37; omega) | omega) (by first | (clear ha2 hq0 hq1 hq2 hq3 hq4 hq8 h_1 h_2 h_3 h_4 h_5 h_6 h_7 h_8 h_9 h_10 h_11 h_46 h_65 h_66 h_70 h_75 h_76 h_81 h_82 h_87 h_88 h_93 h_94 h_99 h_101 h_103 h_104 h_105 h_106 h_107 h_108 h_109 h_110 h_111 h_112 h_113 h_114 h_115 h_116 h_117 hq6 hq7 h_12 h_21 h_37; omega) | omega)).trans (rfl)) rfl (fun c_122 hI_123 hF_124 h_125 => ?_))
                refine bk_inl ?_
                refine v_bip rfl (by decide) ?_
                refine v_ic_ne_t (t := 45) rfl (by decide) ⟨by first | (clear ha2 hq0 hq1 hq2 hq3 hq8 h_3 h_4 h_5 h_6 h_7 h_8 h_9 h_11 h_65 h_66 h_70 h_75 h_76 h_81 h_82 h_87 h_88 h_93 h_94 h_99 h_101 h_103 h_104 h_105 h_106 h_107 h_108 h_109 h_110 h_111 h_112 h_113 h_114 h_115 h_116 h_117; omega) | omega, ⟨h_121.1, h_121.2⟩, by decide, by decide⟩ ?_
                refine q_aload_n rfl rfl ?_
                have kn_126 : Hid (c_122 41 3 = e1) := (hF_124 41 3 (fun h => absurd h.2 (ni rfl))).trans (hr_e1)
                refine v_cv rfl rfl rfl rfl (by decide) ⟨⟨rfl, rfl⟩, by decide, rfl⟩ (Nat.le_of_ble_eq_true rfl) (Nat.le_of_ble_eq_true rfl) (f_154 (e1 := e1) (a9 := (nx F e1 p0)) (B := H) (r8 := (nx F e1 p0)) (r := (hb H e1 (nx F e1 p0))) hI_123 ((hid kn_126)) ((h_125)) (fun j => (hF_124 43 j (fun h => absurd h.1 (nn rfl))).trans (hH j)) ((nx_tr hU (by first | (clear ha2 hq0 hq1 hq2 hq3 hq4 hq5 hq8 h_1 h_2 h_3 h_4 h_6 h_7 h_8 h_9 h_11 h_46 h_65 h_66 h_70 h_75 h_76 h_81 h_82 h_87 h_88 h_93 h_94 h_99 h_101 h_103 h_104 h_105 h_106 h_107 h_108 h_109 h_110 h_111 h_112 h_113 h_114 h_115 h_116 h_117 h_118 h_119 h_121 hq6 hq7 h_12 h_21 h_37 h_120; omega) | omega) (by first | (clear ha2 hq0 hq1 hq2 hq3 hq4 hq8 h_1 h_2 h_3 h_4 h_5 h_6 h_7 h_8 h_9 h_10 h_11 h_46 h_65 h_66 h_70 h_75 h_76 h_81 h_82 h_87 h_88 h_93 h_94 h_99 h_101 h_103 h_104 h_105 h_106 h_107 h_108 h_109 h_110 h_111 h_112 h_113 h_114 h_115 h_116 h_117 h_118 h_119 h_121 hq6 hq7 h_12 h_21 h_37 h_120; omega) | omega)).trans ((nx_z (by omega)))) rfl (fun c_127 hI_128 hF_129 h_130 => ?_))
                refine bk_inl ?_
                refine q_call rfl rfl rfl rfl (f_156 (a0 := (hb H e1 (nx F e1 p0))) hI_128 (show (-2147483648) ≤ (hb H e1 (nx F e1 p0)) ∧ (hb H e1 (nx F e1 p0)) ≤ 2147483647 from h_121) (fun y_131 hy_131 h_132 => ?_))
                refine bk_inl ?_
                refine v_if_eq_t (t := 71) rfl (by decide) (by first | (clear ha2 hq0 hq1 hq2 hq3 hq8 h_3 h_4 h_5 h_6 h_7 h_8 h_9 h_11 h_65 h_66 h_70 h_75 h_76 h_81 h_82 h_87 h_88 h_93 h_94 h_99 h_101 h_103 h_104 h_105 h_106 h_107 h_108 h_109 h_110 h_111 h_112 h_113 h_114 h_115 h_116 h_117; omega) | omega) ?_
                refine q_aload_n rfl rfl ?_
                have kn_133 : Hid (c_127 41 3 = e1) := (hF_129 41 3 (fun h => absurd h.2 (ni rfl))).trans (hid kn_126)
                have h_134 := wv_bd (b := F) (r := (nx F e1 p0)) (l := (ln F e1 (nx F e1 p0))) (fun j h1 h2 => ⟨(ln_in (e := e1) (a := (nx F e1 p0)) h1 h2).1, (ln_in (e := e1) (a := (nx F e1 p0)) h1 h2).2.1⟩)
                have h_135 := wr1_9 (b := F) (r := (nx F e1 p0)) (l := (ln F e1 (nx F e1 p0))) (by omega) (fun j h1 h2 => ⟨(ln_in (e := e1) (a := (nx F e1 p0)) h1 h2).1, (ln_in (e := e1) (a := (nx F e1 p0)) h1 h2).2.1⟩) (by omega)
                have h_136 : (wv F (nx F e1 p0) (ln F e1 (nx F e1 p0))) = 441972 → (ln F e1 (nx F e1 p0)) - (nx F e1 p0) = 4 := wl_most (by omega) (fun j h1 h2 => ⟨(ln_in (e := e1) (a := (nx F e1 p0)) h1 h2).1, (ln_in (e := e1) (a := (nx F e1 p0)) h1 h2).2.1⟩)
                refine v_cv rfl rfl rfl rfl (by decide) ⟨⟨rfl, rfl⟩, by decide, rfl⟩ (Nat.le_of_ble_eq_true rfl) (Nat.le_of_ble_eq_true rfl) (f_157 (e1 := e1) (a9 := (nx F e1 p0)) (B := H) (r8 := (nx F e1 p0)) (L8 := (ln F e1 (nx F e1 p0))) (W8 := (wv F (nx F e1 p0) (ln F e1 (nx F e1 p0)))) hI_128 ((hid kn_133)) ((h_130)) (fun j => ((hF_129 43 j (fun h => absurd h.1 (nn rfl))).trans (hF_124 43 j (fun h => absurd h.1 (nn rfl)))).trans (hH j)) ((nx_tr hU (by first | (clear ha2 hq0 hq1 hq2 hq3 hq4 hq5 hq8 h_1 h_2 h_3 h_4 h_6 h_7 h_8 h_9 h_11 h_46 h_65 h_66 h_70 h_75 h_76 h_81 h_82 h_87 h_88 h_93 h_94 h_99 h_101 h_103 h_104 h_105 h_106 h_107 h_108 h_109 h_110 h_111 h_112 h_113 h_114 h_115 h_116 h_117 h_118 h_119 h_121 hq6 hq7 h_12 h_21 h_37 h_120 h_132; omega) | omega) (by first | (clear ha2 hq0 hq1 hq2 hq3 hq4 hq8 h_1 h_2 h_3 h_4 h_5 h_6 h_7 h_8 h_9 h_10 h_11 h_46 h_65 h_66 h_70 h_75 h_76 h_81 h_82 h_87 h_88 h_93 h_94 h_99 h_101 h_103 h_104 h_105 h_106 h_107 h_108 h_109 h_110 h_111 h_112 h_113 h_114 h_115 h_116 h_117 h_118 h_119 h_121 hq6 hq7 h_12 h_21 h_37 h_120 h_132; omega) | omega)).trans ((nx_z (by omega)))) ((ln_tr hU (by first | (clear ha2 hq0 hq1 hq2 hq3 hq4 hq5 hq8 h_1 h_2 h_3 h_4 h_6 h_7 h_8 h_9 h_11 h_46 h_65 h_66 h_70 h_75 h_76 h_81 h_82 h_87 h_88 h_93 h_94 h_99 h_101 h_103 h_104 h_105 h_106 h_107 h_108 h_109 h_110 h_111 h_112 h_113 h_114 h_115 h_116 h_117 h_118 h_119 h_121 hq6 hq7 h_12 h_21 h_37 h_120 h_132; omega) | omega) (by first | (clear ha2 hq0 hq1 hq2 hq3 hq4 hq8 h_1 h_2 h_3 h_4 h_5 h_6 h_7 h_8 h_9 h_10 h_11 h_46 h_65 h_66 h_70 h_75 h_76 h_81 h_82 h_87 h_88 h_93 h_94 h_99 h_101 h_103 h_104 h_105 h_106 h_107 h_108 h_109 h_110 h_111 h_112 h_113 h_114 h_115 h_116 h_117 h_118 h_119 h_121 hq6 hq7 h_12 h_21 h_37 h_120 h_132; omega) | omega)).trans (rfl)) ((wv_tr hU (by first | (clear ha2 hq0 hq1 hq2 hq3 hq4 hq5 hq8 h_1 h_2 h_3 h_4 h_6 h_7 h_8 h_9 h_11 h_46 h_65 h_66 h_70 h_75 h_76 h_81 h_82 h_87 h_88 h_93 h_94 h_99 h_101 h_103 h_104 h_105 h_106 h_107 h_108 h_109 h_110 h_111 h_112 h_113 h_114 h_115 h_116 h_117 h_118 h_119 h_121 h_134 h_136 hq6 hq7 h_12 h_21 h_37 h_120 h_132; omega) | omega) (by first | (clear ha2 hq0 hq1 hq2 hq3 hq4 hq8 h_1 h_2 h_3 h_4 h_5 h_6 h_7 h_8 h_9 h_10 h_11 h_65 h_66 h_70 h_75 h_76 h_81 h_82 h_87 h_88 h_93 h_94 h_99 h_101 h_103 h_104 h_105 h_106 h_107 h_108 h_109 h_110 h_111 h_112 h_113 h_114 h_115 h_116 h_117 h_118 h_119 h_121 h_134 h_136 hq6 hq7 h_12 h_21 h_37 h_120 h_132; omega) | omega) (fun j h1 h2 => ⟨(ln_in (e := e1) (a := (nx F e1 p0)) h1 h2).1, (ln_in (e := e1) (a := (nx F e1 p0)) h1 h2).2.1⟩)).trans (rfl)) (fun c_137 hI_138 hF_139 hz_140 => ?_))
                refine bk_inl ?_
                refine q_ldc_w_s rfl rfl rfl (by decide) ?_
                refine q_call rfl rfl rfl rfl (s_158_20 ?_)
                refine bk_inl ?_
                refine v_ic_ne_t (t := 94) rfl (by decide) ⟨by first | (clear ha2 hq0 hq1 hq2 hq3 hq4 hq5 hq8 h_1 h_2 h_3 h_4 h_5 h_6 h_7 h_8 h_9 h_10 h_11 h_46 h_65 h_66 h_70 h_75 h_76 h_81 h_82 h_87 h_88 h_93 h_94 h_99 h_101 h_103 h_104 h_105 h_106 h_107 h_108 h_109 h_110 h_111 h_112 h_113 h_114 h_115 h_116 h_117 h_118 h_119 h_121 h_134 hq6 hq7 h_12 h_21 h_37 h_120 h_132; omega) | omega, ⟨(Int.le_trans (by decide) h_134.1), (Int.le_trans h_134.2 (by decide))⟩, by decide, by decide⟩ ?_
                refine q_aload_n rfl rfl ?_
                have kn_141 : Hid (c_137 41 3 = e1) := (hF_139 41 3 (fun h => absurd h.2 (ni rfl))).trans (hid kn_133)
                refine v_cv rfl rfl rfl rfl (by decide) ⟨⟨rfl, rfl⟩, by decide, rfl⟩ (Nat.le_of_ble_eq_true rfl) (Nat.le_of_ble_eq_true rfl) (f_157 (e1 := e1) (a9 := (nx F e1 p0)) (B := H) (r8 := (nx F e1 p0)) (L8 := (ln F e1 (nx F e1 p0))) (W8 := (wv F (nx F e1 p0) (ln F e1 (nx F e1 p0)))) hI_138 ((hid kn_141)) ((hz_140)) (fun j => ((hF_139 43 j (fun h => absurd h.1 (nn rfl))).trans ((hF_129 43 j (fun h => absurd h.1 (nn rfl))).trans (hF_124 43 j (fun h => absurd h.1 (nn rfl))))).trans (hH j)) ((nx_tr hU (by first | (clear ha2 hq0 hq1 hq2 hq3 hq4 hq5 hq8 h_1 h_2 h_3 h_4 h_6 h_7 h_8 h_9 h_11 h_46 h_65 h_66 h_70 h_75 h_76 h_81 h_82 h_87 h_88 h_93 h_94 h_99 h_101 h_103 h_104 h_105 h_106 h_107 h_108 h_109 h_110 h_111 h_112 h_113 h_114 h_115 h_116 h_117 h_118 h_119 h_121 h_134 h_136 hq6 hq7 h_12 h_21 h_37 h_120 h_132; omega) | omega) (by first | (clear ha2 hq0 hq1 hq2 hq3 hq4 hq8 h_1 h_2 h_3 h_4 h_5 h_6 h_7 h_8 h_9 h_10 h_11 h_46 h_65 h_66 h_70 h_75 h_76 h_81 h_82 h_87 h_88 h_93 h_94 h_99 h_101 h_103 h_104 h_105 h_106 h_107 h_108 h_109 h_110 h_111 h_112 h_113 h_114 h_115 h_116 h_117 h_118 h_119 h_121 h_134 h_136 hq6 hq7 h_12 h_21 h_37 h_120 h_132; omega) | omega)).trans ((nx_z (by omega)))) ((ln_tr hU (by first | (clear ha2 hq0 hq1 hq2 hq3 hq4 hq5 hq8 h_1 h_2 h_3 h_4 h_6 h_7 h_8 h_9 h_11 h_46 h_65 h_66 h_70 h_75 h_76 h_81 h_82 h_87 h_88 h_93 h_94 h_99 h_101 h_103 h_104 h_105 h_106 h_107 h_108 h_109 h_110 h_111 h_112 h_113 h_114 h_115 h_116 h_117 h_118 h_119 h_121 h_134 h_136 hq6 hq7 h_12 h_21 h_37 h_120 h_132; omega) | omega) (by first | (clear ha2 hq0 hq1 hq2 hq3 hq4 hq8 h_1 h_2 h_3 h_4 h_5 h_6 h_7 h_8 h_9 h_10 h_11 h_46 h_65 h_66 h_70 h_75 h_76 h_81 h_82 h_87 h_88 h_93 h_94 h_99 h_101 h_103 h_104 h_105 h_106 h_107 h_108 h_109 h_110 h_111 h_112 h_113 h_114 h_115 h_116 h_117 h_118 h_119 h_121 h_134 h_136 hq6 hq7 h_12 h_21 h_37 h_120 h_132; omega) | omega)).trans (rfl)) ((wv_tr hU (by first | (clear ha2 hq0 hq1 hq2 hq3 hq4 hq5 hq8 h_1 h_2 h_3 h_4 h_6 h_7 h_8 h_9 h_11 h_46 h_65 h_66 h_70 h_75 h_76 h_81 h_82 h_87 h_88 h_93 h_94 h_99 h_101 h_103 h_104 h_105 h_106 h_107 h_108 h_109 h_110 h_111 h_112 h_113 h_114 h_115 h_116 h_117 h_118 h_119 h_121 h_134 h_136 hq6 hq7 h_12 h_21 h_37 h_120 h_132; omega) | omega) (by first | (clear ha2 hq0 hq1 hq2 hq3 hq4 hq8 h_1 h_2 h_3 h_4 h_5 h_6 h_7 h_8 h_9 h_10 h_11 h_65 h_66 h_70 h_75 h_76 h_81 h_82 h_87 h_88 h_93 h_94 h_99 h_101 h_103 h_104 h_105 h_106 h_107 h_108 h_109 h_110 h_111 h_112 h_113 h_114 h_115 h_116 h_117 h_118 h_119 h_121 h_134 h_136 hq6 hq7 h_12 h_21 h_37 h_120 h_132; omega) | omega) (fun j h1 h2 => ⟨(ln_in (e := e1) (a := (nx F e1 p0)) h1 h2).1, (ln_in (e := e1) (a := (nx F e1 p0)) h1 h2).2.1⟩)).trans (rfl)) (fun c_142 hI_143 hF_144 hz_145 => ?_))
                refine bk_inl ?_
                refine q_ldc_w_s rfl rfl rfl (by decide) ?_
                refine q_call rfl rfl rfl rfl (s_158_21 ?_)
                refine bk_inl ?_
                refine v_ic_ne_f (t := 117) rfl (by decide) (by first | (clear ha2 hq0 hq1 hq2 hq3 hq4 hq5 hq8 h_1 h_2 h_3 h_4 h_5 h_6 h_7 h_8 h_9 h_10 h_11 h_46 h_65 h_66 h_70 h_75 h_76 h_81 h_82 h_87 h_88 h_93 h_94 h_99 h_101 h_103 h_104 h_105 h_106 h_107 h_108 h_109 h_110 h_111 h_112 h_113 h_114 h_115 h_116 h_117 h_118 h_119 h_121 h_134 hq6 hq7 h_12 h_21 h_37 h_120 h_132; omega) | omega) ?_
                refine q_aload_n rfl rfl ?_
                refine q_iconst rfl ?_
                refine v_bip rfl (by decide) ?_
                refine v_cv rfl rfl rfl rfl (by decide) ⟨⟨rfl, rfl⟩, by decide, rfl⟩ (Nat.le_of_ble_eq_true rfl) (Nat.le_of_ble_eq_true rfl) ?_
                refine q_aload_n rfl rfl ?_
                refine q_iload_n rfl rfl ?_
                refine v_cv rfl rfl rfl rfl (by decide) ⟨⟨rfl, rfl⟩, by decide, rfl⟩ (Nat.le_of_ble_eq_true rfl) (Nat.le_of_ble_eq_true rfl) ?_
                refine q_aload_n rfl rfl ?_
                refine v_cv rfl rfl rfl rfl (by decide) ⟨⟨rfl, rfl⟩, by decide, rfl⟩ (Nat.le_of_ble_eq_true rfl) (Nat.le_of_ble_eq_true rfl) ?_
                refine q_aload_n rfl rfl ?_
                have kn_146 : Hid (c_122 41 5 = (-1)) := (hF_124 41 5 (fun h => absurd h.2 (ni rfl))).trans hro_hRt.2.1
                have kn_147 : Hid (c_127 41 5 = (-1)) := (hF_129 41 5 (fun h => absurd h.2 (ni rfl))).trans (hid kn_146)
                have kn_148 : Hid (c_137 41 5 = (-1)) := (hF_139 41 5 (fun h => absurd h.2 (ni rfl))).trans (hid kn_147)
                have kn_149 : Hid (c_142 41 5 = (-1)) := (hF_144 41 5 (fun h => absurd h.2 (ni rfl))).trans (hid kn_148)
                refine v_gi (z := 5) (v := (-1)) rfl rfl rfl (by decide) rfl rfl (hid kn_149) ?_
                refine q_iconst rfl ?_
                refine v_ic_ne_f (t := 12) rfl (by decide) (by decide) ?_
                refine q_iconst rfl ?_
                refine q_goto (t := 13) rfl (by decide) ?_
                refine v_zret rfl rfl (by decide) ?_
                refine bk_inl ?_
                refine v_if_eq_f (t := 25) rfl (by decide) (by decide) ?_
                refine q_aload_n rfl rfl ?_
                have kn_150 : Hid (c_122 41 7 = o0) := (hF_124 41 7 (fun h => absurd h.2 (ni rfl))).trans (hr_o0)
                have kn_151 : Hid (c_127 41 7 = o0) := (hF_129 41 7 (fun h => absurd h.2 (ni rfl))).trans (hid kn_150)
                have kn_152 : Hid (c_137 41 7 = o0) := (hF_139 41 7 (fun h => absurd h.2 (ni rfl))).trans (hid kn_151)
                have kn_153 : Hid (c_142 41 7 = o0) := (hF_144 41 7 (fun h => absurd h.2 (ni rfl))).trans (hid kn_152)
                refine v_gi (z := 7) (v := o0) rfl rfl rfl (by decide) rfl rfl (hid kn_153) ?_
                refine v_bip rfl (by decide) ?_
                refine v_ic_ne_t (t := 25) rfl (by decide) ⟨by first | (clear ha2 hq0 hq1 hq3 hq4 hq5 hq8 h_1 h_2 h_3 h_4 h_5 h_6 h_7 h_8 h_9 h_10 h_11 h_46 h_65 h_66 h_75 h_76 h_81 h_82 h_87 h_88 h_93 h_94 h_99 h_101 h_103 h_104 h_105 h_106 h_107 h_108 h_109 h_110 h_111 h_112 h_113 h_114 h_115 h_116 h_117 h_118 h_119 h_121 h_134 h_136 hq6 hq7 h_12 h_21 h_37 h_120 h_132; omega) | omega, ⟨(Int.le_trans (by decide) (rg_eq hr_o0 h_8).1), (Int.le_trans (rg_eq hr_o0 h_8).2 (by decide))⟩, by decide, by decide⟩ ?_
                refine q_aload_n rfl rfl ?_
                refine v_cv rfl rfl rfl rfl (by decide) ⟨⟨rfl, rfl⟩, by decide, rfl⟩ (Nat.le_of_ble_eq_true rfl) (Nat.le_of_ble_eq_true rfl) ?_
                refine q_aload_n rfl rfl ?_
                refine v_gi (z := 5) (v := (-1)) rfl rfl rfl (by decide) rfl rfl (hid kn_149) ?_
                refine q_iconst rfl ?_
                refine v_ic_ne_f (t := 12) rfl (by decide) (by decide) ?_
                refine q_iconst rfl ?_
                refine q_goto (t := 13) rfl (by decide) ?_
                refine v_zret rfl rfl (by decide) ?_
                refine bk_inl ?_
                refine v_if_eq_f (t := 42) rfl (by decide) (by decide) ?_
                refine q_aload_n rfl rfl ?_
                refine q_dup rfl rfl ?_
                refine v_gi (z := 4) (v := (nx F e1 p0)) rfl rfl rfl (by decide) rfl rfl (hz_145) ?_
                refine q_iload_n rfl rfl ?_
                refine v_iadd (v := (nx F e1 p0) + 4) rfl rfl ?_
                refine v_pi (z := 4) rfl rfl rfl (by decide) rfl rfl rfl (by decide) ?_
                refine q_aload_n rfl rfl ?_
                refine q_dup rfl rfl ?_
                refine v_gi (z := 7) (v := o0) rfl rfl rfl (by decide) rfl rfl ((up_n (by decide)).trans (hid kn_153)) ?_
                refine q_iconst rfl ?_
                refine v_iadd (v := o0 + 1) rfl rfl ?_
                refine v_pi (z := 7) rfl rfl rfl (by decide) rfl rfl rfl (by decide) ?_
                refine q_vret rfl rfl ?_
                refine bk_inl ?_
                refine q_aload_n rfl rfl ?_
                refine v_bip rfl (by decide) ?_
                have hI_154 := iw_41_4 (v := (nx F e1 p0) + 4) hI_143 ⟨by first | exact rgp_l (rg_be h_10 ((rg_eq hg_p0 h_5).1) ((rg_eq hg_e1 h_1).2)).1 (by decide) | omega, by first | exact rgp_h (rg_be h_10 ((rg_eq hg_p0 h_5).1) ((rg_eq hg_e1 h_1).2)).2 (by decide) | omega⟩
                have hI_155 := iw_41_7 (v := o0 + 1) hI_154 ⟨by first | exact rgp_l (rg_eq hr_o0 h_8).1 (by decide) | omega, by first | (clear ha2 hq0 hq1 hq3 hq4 hq5 hq8 h_1 h_2 h_3 h_4 h_5 h_6 h_7 h_8 h_9 h_10 h_11 h_46 h_65 h_66 h_75 h_76 h_81 h_82 h_87 h_88 h_93 h_94 h_99 h_101 h_103 h_104 h_105 h_106 h_107 h_108 h_109 h_110 h_111 h_112 h_113 h_114 h_115 h_116 h_117 h_118 h_119 h_121 h_134 h_136 hq6 hq7 h_12 h_21 h_37 h_120 h_132; omega) | omega⟩
                have kn_156 : Hid (c_62 1 1 = e1) := (hF_64 1 1 (fun q => q.elim (fun h => absurd h.2 (ni rfl)) (fun q => q.elim (fun h => absurd h.2 (ni rfl)) (fun h => absurd h.2 (ni rfl))))).trans (hid kn_39)
                have kn_157 : Hid (c_142 41 3 = e1) := (hF_144 41 3 (fun h => absurd h.2 (ni rfl))).trans (hid kn_141)
                have h_158 : c_62 1 4 = 0 := (hz_68)
                have h_159 : c_62 1 2 = (ln F e1 (nx F e1 p0)) := (hz_67)
                have h_160 : c_62 1 5 = g0 := (hz_69)
                have h_161 : (up (up c_142 41 4 ((nx F e1 p0) + 4)) 41 7 (o0 + 1)) 41 5 = (-1) := ((up_n (by decide)).trans ((up_n (by decide)).trans (hid kn_149)))
                have h_162 : (up (up c_142 41 4 ((nx F e1 p0) + 4)) 41 7 (o0 + 1)) 41 4 = (nx F e1 p0) + 4 := ((up_n (by decide)).trans (up_e rfl))
                have kn_163 : Hid (c_122 41 6 = c 41 6) := hF_124 41 6 (fun h => absurd h.2 (ni rfl))
                have kn_164 : Hid (c_127 41 6 = c 41 6) := (hF_129 41 6 (fun h => absurd h.2 (ni rfl))).trans (hid kn_163)
                have kn_165 : Hid (c_137 41 6 = c 41 6) := (hF_139 41 6 (fun h => absurd h.2 (ni rfl))).trans (hid kn_164)
                have kn_166 : Hid (c_142 41 6 = c 41 6) := (hF_144 41 6 (fun h => absurd h.2 (ni rfl))).trans (hid kn_165)
                have h_167 : (up (up c_142 41 4 ((nx F e1 p0) + 4)) 41 7 (o0 + 1)) 41 6 = c 41 6 := ((up_n (by decide)).trans ((up_n (by decide)).trans (hid kn_166)))
                refine v_cv rfl rfl rfl rfl (by decide) ⟨⟨rfl, rfl⟩, by decide, rfl⟩ (Nat.le_of_ble_eq_true rfl) (Nat.le_of_ble_eq_true rfl) (L_11_3 (m := c_62) (e1 := e1) (a9 := (ln F e1 (nx F e1 p0))) (f0 := 0) (F := F) (H := H) hI_155 hI_63 hI_72 ((hid kn_156)) (((up_n (by decide)).trans ((up_n (by decide)).trans (hid kn_157)))) ((hz_67)) ((hz_68)) (fun j => ((hF_64 2 j (fun q => q.elim (fun h => absurd h.1 (nn rfl)) (fun q => q.elim (fun h => absurd h.1 (nn rfl)) (fun h => absurd h.1 (nn rfl))))).trans ((hF_36 2 j (fun h => absurd h.1 (nn rfl))).trans ((hF_26 2 j (fun h => absurd h.1 (nn rfl))).trans (hF_20 2 j (fun h => absurd h.1 (nn rfl)))))).trans (hF j)) (fun j => ((up_c (nn rfl)).trans ((up_c (nn rfl)).trans ((hF_144 43 j (fun h => absurd h.1 (nn rfl))).trans ((hF_139 43 j (fun h => absurd h.1 (nn rfl))).trans ((hF_129 43 j (fun h => absurd h.1 (nn rfl))).trans (hF_124 43 j (fun h => absurd h.1 (nn rfl)))))))).trans (hH j)) hU (rt_i1 ⟨by first | (clear ha2 hq0 hq1 hq2 hq3 hq4 hq5 hq8 h_1 h_2 h_3 h_4 h_5 h_6 h_7 h_8 h_9 h_10 h_11 h_46 h_65 h_66 h_70 h_75 h_76 h_81 h_82 h_87 h_88 h_93 h_94 h_99 h_101 h_103 h_104 h_105 h_106 h_107 h_108 h_109 h_110 h_111 h_112 h_113 h_114 h_115 h_116 h_117 h_118 h_119 h_121 h_134 h_136 hq6 hq7 h_12 h_21 h_37 h_120 h_132; omega) | omega, by first | (clear ha2 hq0 hq1 hq2 hq3 hq4 hq5 hq8 h_1 h_2 h_3 h_4 h_5 h_6 h_7 h_8 h_9 h_10 h_11 h_46 h_65 h_66 h_70 h_75 h_76 h_81 h_82 h_87 h_88 h_93 h_94 h_99 h_101 h_103 h_104 h_105 h_106 h_107 h_108 h_109 h_110 h_111 h_112 h_113 h_114 h_115 h_116 h_117 h_118 h_119 h_121 h_134 h_136 hq6 hq7 h_12 h_21 h_37 h_120 h_132; omega) | omega, by first | (clear ha2 hq0 hq1 hq2 hq3 hq4 hq5 hq8 h_1 h_2 h_3 h_4 h_5 h_6 h_7 h_8 h_9 h_10 h_11 h_46 h_65 h_66 h_70 h_75 h_76 h_81 h_82 h_87 h_88 h_93 h_94 h_99 h_101 h_103 h_104 h_105 h_106 h_107 h_108 h_109 h_110 h_111 h_112 h_113 h_114 h_115 h_116 h_117 h_118 h_119 h_121 h_134 hq6 hq7 h_12 h_21 h_37 h_120 h_132; omega) | omega, by first | (clear ha2 hq0 hq2 hq3 hq4 hq5 hq8 h_1 h_2 h_3 h_4 h_5 h_6 h_7 h_8 h_9 h_10 h_11 h_46 h_65 h_66 h_70 h_75 h_76 h_81 h_82 h_87 h_88 h_93 h_94 h_99 h_101 h_103 h_104 h_105 h_106 h_107 h_108 h_109 h_110 h_111 h_112 h_113 h_114 h_115 h_116 h_117 h_118 h_119 h_121 h_134 h_136 hq6 hq7 h_12 h_21 h_37 h_120 h_132; omega) | omega⟩) hG_74 (fun c_168 hI_169 hF_170 hR_172 h_173 h_174 => ?_))
                refine bk_inl ?_
                have h_175 := ir_1_2 hI_72
                refine q_aload_n rfl rfl ?_
                have h_176 := ir_41_5 hI_169
                have h_177 := ir_1_5 hI_72
                have h_178 := ir_41_4 hI_169
                have h_179 := ir_41_6 hI_169
                have h_180 := rt_ok hR_172 (by omega)
                have hro_hR_172 := rt_ok hR_172 (by omega)
                have kn_181 : Hid (c_71 1 1 = e1) := (hF_73 1 1 (fun q => q.elim (fun h => absurd h.2 (ni rfl)) (fun q => q.elim (fun h => absurd h.2 (ni rfl)) (fun h => absurd h.2 (ni rfl))))).trans (hid kn_156)
                have kn_182 : Hid (c_168 41 3 = e1) := (hF_170 41 3 (fun q => q.elim (fun h => absurd h.2 (ni rfl)) (fun q => q.elim (fun h => absurd h.2 (ni rfl)) (fun h => absurd h.2 (ni rfl))))).trans ((up_n (by decide)).trans ((up_n (by decide)).trans (hid kn_157)))
                have kn_183 : Hid (c_18 (A + 7) 5 = n0) := (hF_20 (A + 7) 5 (fun h => absurd h.1 (np hA rfl rfl))).trans (hg_n0)
                have kn_184 : Hid (c_24 (A + 7) 5 = n0) := (hF_26 (A + 7) 5 (fun h => absurd h.1 (np hA rfl rfl))).trans (hid kn_183)
                have kn_185 : Hid (c_34 (A + 7) 5 = n0) := (hF_36 (A + 7) 5 (fun h => absurd h.1 (np hA rfl rfl))).trans (hid kn_184)
                have kn_186 : Hid (c_62 (A + 7) 5 = n0) := (hF_64 (A + 7) 5 (fun q => q.elim (fun h => absurd h.1 (np hA rfl rfl)) (fun q => q.elim (fun h => absurd h.1 (np hA rfl rfl)) (fun h => absurd h.1 (np hA rfl rfl))))).trans (hid kn_185)
                have kn_187 : Hid (c_71 (A + 7) 5 = n0) := (hF_73 (A + 7) 5 (fun q => q.elim (fun h => absurd h.1 (np hA rfl rfl)) (fun q => q.elim (fun h => absurd h.1 (np hA rfl rfl)) (fun h => absurd h.1 (np hA rfl rfl))))).trans (hid kn_186)
                have kn_188 : Hid (c_122 41 29 = n0) := (hF_124 41 29 (fun h => absurd h.2 (ni rfl))).trans (hr_n0)
                have kn_189 : Hid (c_127 41 29 = n0) := (hF_129 41 29 (fun h => absurd h.2 (ni rfl))).trans (hid kn_188)
                have kn_190 : Hid (c_137 41 29 = n0) := (hF_139 41 29 (fun h => absurd h.2 (ni rfl))).trans (hid kn_189)
                have kn_191 : Hid (c_142 41 29 = n0) := (hF_144 41 29 (fun h => absurd h.2 (ni rfl))).trans (hid kn_190)
                have kn_192 : Hid (c_168 41 29 = n0) := (hF_170 41 29 (fun q => q.elim (fun h => absurd h.2 (ni rfl)) (fun q => q.elim (fun h => absurd h.2 (ni rfl)) (fun h => absurd h.2 (ni rfl))))).trans ((up_n (by decide)).trans ((up_n (by decide)).trans (hid kn_191)))
                have kn_193 : Hid (c_168 41 7 = o0 + 1) := (hF_170 41 7 (fun q => q.elim (fun h => absurd h.2 (ni rfl)) (fun q => q.elim (fun h => absurd h.2 (ni rfl)) (fun h => absurd h.2 (ni rfl))))).trans (up_e rfl)
                have hA_194 : Ce n0 (c_71 (A + 9)) (c_168 50) (c_168 51) := ce_fr hr0 (fun j => (hF_73 (A + 9) j (fun q => q.elim (fun h => absurd h.1 (np hA rfl rfl)) (fun q => q.elim (fun h => absurd h.1 (np hA rfl rfl)) (fun h => absurd h.1 (np hA rfl rfl))))).trans ((hF_64 (A + 9) j (fun q => q.elim (fun h => absurd h.1 (np hA rfl rfl)) (fun q => q.elim (fun h => absurd h.1 (np hA rfl rfl)) (fun h => absurd h.1 (np hA rfl rfl))))).trans ((hF_36 (A + 9) j (fun h => absurd h.1 (np hA rfl rfl))).trans ((hF_26 (A + 9) j (fun h => absurd h.1 (np hA rfl rfl))).trans (hF_20 (A + 9) j (fun h => absurd h.1 (np hA rfl rfl))))))) (fun j => (hF_170 50 j (fun q => q.elim (fun h => absurd h.1 (nn rfl)) (fun q => q.elim (fun h => absurd h.1 (nn rfl)) (fun h => absurd h.1 (nn rfl))))).trans ((up_c (nn rfl)).trans ((up_c (nn rfl)).trans ((hF_144 50 j (fun h => absurd h.1 (nn rfl))).trans ((hF_139 50 j (fun h => absurd h.1 (nn rfl))).trans ((hF_129 50 j (fun h => absurd h.1 (nn rfl))).trans (hF_124 50 j (fun h => absurd h.1 (nn rfl))))))))) (fun j => (hF_170 51 j (fun q => q.elim (fun h => absurd h.1 (nn rfl)) (fun q => q.elim (fun h => absurd h.1 (nn rfl)) (fun h => absurd h.1 (nn rfl))))).trans ((up_c (nn rfl)).trans ((up_c (nn rfl)).trans ((hF_144 51 j (fun h => absurd h.1 (nn rfl))).trans ((hF_139 51 j (fun h => absurd h.1 (nn rfl))).trans ((hF_129 51 j (fun h => absurd h.1 (nn rfl))).trans (hF_124 51 j (fun h => absurd h.1 (nn rfl)))))))))
                refine v_cv rfl rfl rfl rfl (by decide) ⟨⟨rfl, rfl⟩, by decide, rfl⟩ (Nat.le_of_ble_eq_true rfl) (Nat.le_of_ble_eq_true rfl) (H13 (m := c_71) (e1 := e1) (f0 := c_71 1 4) (g0 := c_71 1 5) (p0 := c_71 1 2) (n0 := n0) (o0 := o0 + 1) (by omega) (by omega) hI_169 hI_72 hI_78 (show 0 ≤ a2 + 1 ∧ a2 + 1 ≤ 6 from ⟨by first | exact rgp_l ha2.1 (by decide) | omega, by first | (clear ha2 hq0 hq1 hq2 hq3 hq4 hq5 hq8 h_1 h_2 h_3 h_4 h_5 h_6 h_7 h_8 h_9 h_10 h_11 h_46 h_65 h_66 h_75 h_76 h_81 h_82 h_87 h_88 h_93 h_94 h_99 h_101 h_103 h_104 h_105 h_106 h_107 h_108 h_109 h_110 h_111 h_112 h_113 h_114 h_115 h_116 h_117 h_118 h_119 h_121 h_134 h_136 h_175 h_176 h_177 h_178 h_179 h_180 hq6 hq7 h_12 h_21 h_37 h_120 h_132 h_173 h_174; omega) | omega⟩) (by first | (clear ha2 hq0 hq1 hq2 hq3 hq4 hq5 hq8 h_1 h_2 h_3 h_4 h_5 h_6 h_7 h_8 h_9 h_10 h_11 h_46 h_65 h_66 h_70 h_81 h_82 h_87 h_88 h_93 h_94 h_99 h_101 h_103 h_104 h_105 h_106 h_107 h_108 h_109 h_110 h_111 h_112 h_113 h_114 h_115 h_116 h_117 h_118 h_119 h_121 h_134 h_136 h_175 h_176 h_177 h_178 h_179 h_180 hq6 hq7 h_12 h_21 h_37 h_120 h_132 h_173 h_174; omega) | omega) (by first | (clear ha2 hq0 hq1 hq2 hq3 hq4 hq5 hq8 h_1 h_2 h_3 h_4 h_5 h_6 h_7 h_8 h_9 h_10 h_11 h_46 h_65 h_66 h_70 h_75 h_76 h_81 h_82 h_87 h_88 h_93 h_94 h_99 h_101 h_103 h_104 h_105 h_106 h_107 h_108 h_109 h_110 h_111 h_112 h_113 h_114 h_115 h_116 h_117 h_118 h_119 h_121 h_134 h_136 h_175 h_176 h_178 h_179 hq6 hq7 h_12 h_21 h_37 h_120 h_132 h_173 h_174; omega) | omega) (by first | (clear ha2 hq0 hq1 hq3 hq4 hq5 hq8 h_1 h_2 h_3 h_4 h_5 h_6 h_7 h_8 h_9 h_10 h_11 h_46 h_65 h_66 h_70 h_75 h_76 h_81 h_82 h_87 h_88 h_93 h_94 h_99 h_101 h_103 h_104 h_105 h_106 h_107 h_108 h_109 h_110 h_111 h_112 h_113 h_114 h_115 h_116 h_117 h_118 h_119 h_121 h_134 h_136 h_175 h_176 h_177 h_178 h_179 h_180 hq6 hq7 h_12 h_21 h_37 h_120 h_132 h_173 h_174; omega) | omega) (by first | (clear ha2 hq0 hq1 hq2 hq8 h_3 h_4 h_8 h_9 h_11 h_65 h_66 h_70 h_81 h_82 h_87 h_88 h_93 h_94 h_99 h_101 h_103 h_104 h_105 h_106 h_107 h_108 h_109 h_110 h_111 h_112 h_113 h_114 h_115 h_116 h_117 h_118 h_119 h_121 h_134 h_179 h_132; omega) | omega) (by first | (clear ha2 hq0 hq1 hq2 hq3 hq8 h_3 h_4 h_5 h_6 h_7 h_8 h_9 h_11 h_65 h_66 h_70 h_75 h_76 h_81 h_82 h_87 h_88 h_93 h_94 h_99 h_101 h_103 h_104 h_105 h_106 h_107 h_108 h_109 h_110 h_111 h_112 h_113 h_114 h_115 h_116 h_117 h_118 h_119 h_121 h_134 h_136 h_176 h_177 h_178 h_179 h_132 h_174; omega) | omega) (by first | (clear ha2 hq0 hq1 hq2 hq3 hq4 hq8 h_1 h_2 h_3 h_4 h_5 h_6 h_7 h_8 h_9 h_10 h_11 h_46 h_65 h_66 h_70 h_75 h_76 h_81 h_82 h_87 h_88 h_93 h_94 h_99 h_101 h_103 h_104 h_105 h_106 h_107 h_108 h_109 h_110 h_111 h_112 h_113 h_114 h_115 h_116 h_117 h_118 h_119 h_121 h_134 h_136 h_175 h_176 h_177 h_178 h_179 h_180 hq6 hq7 h_12 h_21 h_37 h_120 h_132 h_173 h_174; omega) | omega) ((hid kn_181)) ((hid kn_182)) (rfl) (rfl) (rfl) ((hid kn_187)) ((hid kn_192)) ((hid kn_193)) (fun j => ((hF_73 2 j (fun q => q.elim (fun h => absurd h.1 (nn rfl)) (fun q => q.elim (fun h => absurd h.1 (nn rfl)) (fun h => absurd h.1 (nn rfl))))).trans ((hF_64 2 j (fun q => q.elim (fun h => absurd h.1 (nn rfl)) (fun q => q.elim (fun h => absurd h.1 (nn rfl)) (fun h => absurd h.1 (nn rfl))))).trans ((hF_36 2 j (fun h => absurd h.1 (nn rfl))).trans ((hF_26 2 j (fun h => absurd h.1 (nn rfl))).trans (hF_20 2 j (fun h => absurd h.1 (nn rfl))))))).trans (hF j)) (fun j => ((hF_170 43 j (fun q => q.elim (fun h => absurd h.1 (nn rfl)) (fun q => q.elim (fun h => absurd h.1 (nn rfl)) (fun h => absurd h.1 (nn rfl))))).trans ((up_c (nn rfl)).trans ((up_c (nn rfl)).trans ((hF_144 43 j (fun h => absurd h.1 (nn rfl))).trans ((hF_139 43 j (fun h => absurd h.1 (nn rfl))).trans ((hF_129 43 j (fun h => absurd h.1 (nn rfl))).trans (hF_124 43 j (fun h => absurd h.1 (nn rfl))))))))).trans (hH j)) hU hR_172 (ce_le hA_194 (by omega)) hG_80 (fun c_195 hI_196 hF_197 hR_199 h_200 h_201 hA_202 => ?_))
                refine bk_inl ?_
                have h_203 := ir_41_29 hI_196
                have h_204 := ir_p7_5 hI_78 hA
                have h_205 := ir_1_2 hI_78
                have h_206 := ir_41_7 hI_196
                refine q_aload_n rfl rfl ?_
                refine v_bip rfl (by decide) ?_
                have h_207 := ir_41_5 hI_196
                have h_208 := ir_1_5 hI_78
                have h_209 := ir_41_4 hI_196
                have h_210 := ir_41_6 hI_196
                have h_211 := rt_ok hR_199 (by omega)
                have hro_hR_199 := rt_ok hR_199 (by omega)
                have kn_212 : Hid (c_77 1 1 = e1) := (hF_79 1 1 (fun q => q.elim (fun h => absurd h.2 (ni rfl)) (fun q => q.elim (fun h => absurd h.2 (ni rfl)) (fun q => q.elim (fun h => absurd h.2 (ni rfl)) (fun q => q.elim (fun h => absurd h.1 (pn hA rfl rfl)) (fun h => absurd h (pn hA rfl rfl))))))).trans (hid kn_181)
                have kn_213 : Hid (c_195 41 3 = e1) := (hF_197 41 3 (fun q => q.elim (fun h => absurd h.2 (ni rfl)) (fun q => q.elim (fun h => absurd h.2 (ni rfl)) (fun q => q.elim (fun h => absurd h.2 (ni rfl)) (fun q => q.elim (fun h => absurd h.2 (ni rfl)) (fun q => q.elim (fun h => absurd h.2 (ni rfl)) (fun q => q.elim (fun h => absurd h (nn rfl)) (fun h => absurd h (nn rfl))))))))).trans (hid kn_182)
                refine v_cv rfl rfl rfl rfl (by decide) ⟨⟨rfl, rfl⟩, by decide, rfl⟩ (Nat.le_of_ble_eq_true rfl) (Nat.le_of_ble_eq_true rfl) (L_11_4 (m := c_77) (e1 := e1) (a9 := c_77 1 2) (f0 := c_77 1 4) (F := F) (H := H) hI_196 hI_78 hI_84 ((hid kn_212)) ((hid kn_213)) (rfl) (rfl) (fun j => ((hF_79 2 j (fun q => q.elim (fun h => absurd h.1 (nn rfl)) (fun q => q.elim (fun h => absurd h.1 (nn rfl)) (fun q => q.elim (fun h => absurd h.1 (nn rfl)) (fun q => q.elim (fun h => absurd h.1 (pn hA rfl rfl)) (fun h => absurd h (pn hA rfl rfl))))))).trans ((hF_73 2 j (fun q => q.elim (fun h => absurd h.1 (nn rfl)) (fun q => q.elim (fun h => absurd h.1 (nn rfl)) (fun h => absurd h.1 (nn rfl))))).trans ((hF_64 2 j (fun q => q.elim (fun h => absurd h.1 (nn rfl)) (fun q => q.elim (fun h => absurd h.1 (nn rfl)) (fun h => absurd h.1 (nn rfl))))).trans ((hF_36 2 j (fun h => absurd h.1 (nn rfl))).trans ((hF_26 2 j (fun h => absurd h.1 (nn rfl))).trans (hF_20 2 j (fun h => absurd h.1 (nn rfl)))))))).trans (hF j)) (fun j => ((hF_197 43 j (fun q => q.elim (fun h => absurd h.1 (nn rfl)) (fun q => q.elim (fun h => absurd h.1 (nn rfl)) (fun q => q.elim (fun h => absurd h.1 (nn rfl)) (fun q => q.elim (fun h => absurd h.1 (nn rfl)) (fun q => q.elim (fun h => absurd h.1 (nn rfl)) (fun q => q.elim (fun h => absurd h (nn rfl)) (fun h => absurd h (nn rfl))))))))).trans ((hF_170 43 j (fun q => q.elim (fun h => absurd h.1 (nn rfl)) (fun q => q.elim (fun h => absurd h.1 (nn rfl)) (fun h => absurd h.1 (nn rfl))))).trans ((up_c (nn rfl)).trans ((up_c (nn rfl)).trans ((hF_144 43 j (fun h => absurd h.1 (nn rfl))).trans ((hF_139 43 j (fun h => absurd h.1 (nn rfl))).trans ((hF_129 43 j (fun h => absurd h.1 (nn rfl))).trans (hF_124 43 j (fun h => absurd h.1 (nn rfl)))))))))).trans (hH j)) hU hR_199 hG_86 (fun c_214 hI_215 hF_216 hR_218 h_219 h_220 => ?_))
                refine bk_inl ?_
                have h_221 := ir_1_2 hI_84
                refine q_aload_n rfl rfl ?_
                have h_222 := ir_41_5 hI_215
                have h_223 := ir_1_5 hI_84
                have h_224 := ir_41_4 hI_215
                have h_225 := ir_41_6 hI_215
                have h_226 := rt_ok hR_218 (by omega)
                have hro_hR_218 := rt_ok hR_218 (by omega)
                have kn_227 : Hid (c_83 1 1 = e1) := (hF_85 1 1 (fun q => q.elim (fun h => absurd h.2 (ni rfl)) (fun q => q.elim (fun h => absurd h.2 (ni rfl)) (fun h => absurd h.2 (ni rfl))))).trans (hid kn_212)
                have kn_228 : Hid (c_214 41 3 = e1) := (hF_216 41 3 (fun q => q.elim (fun h => absurd h.2 (ni rfl)) (fun q => q.elim (fun h => absurd h.2 (ni rfl)) (fun h => absurd h.2 (ni rfl))))).trans (hid kn_213)
                have kn_229 : Hid (c_83 (A + 7) 5 = c_77 (A + 7) 5) := hF_85 (A + 7) 5 (fun q => q.elim (fun h => absurd h.1 (np hA rfl rfl)) (fun q => q.elim (fun h => absurd h.1 (np hA rfl rfl)) (fun h => absurd h.1 (np hA rfl rfl))))
                have kn_230 : Hid (c_214 41 29 = c_195 41 29) := hF_216 41 29 (fun q => q.elim (fun h => absurd h.2 (ni rfl)) (fun q => q.elim (fun h => absurd h.2 (ni rfl)) (fun h => absurd h.2 (ni rfl))))
                have kn_231 : Hid (c_214 41 7 = c_195 41 7) := hF_216 41 7 (fun q => q.elim (fun h => absurd h.2 (ni rfl)) (fun q => q.elim (fun h => absurd h.2 (ni rfl)) (fun h => absurd h.2 (ni rfl))))
                have hA_232 : Ce (c_195 41 29) (c_83 (A + 9)) (c_214 50) (c_214 51) := ce_fr (hA_202 (by omega)) (fun j => hF_85 (A + 9) j (fun q => q.elim (fun h => absurd h.1 (np hA rfl rfl)) (fun q => q.elim (fun h => absurd h.1 (np hA rfl rfl)) (fun h => absurd h.1 (np hA rfl rfl))))) (fun j => hF_216 50 j (fun q => q.elim (fun h => absurd h.1 (nn rfl)) (fun q => q.elim (fun h => absurd h.1 (nn rfl)) (fun h => absurd h.1 (nn rfl))))) (fun j => hF_216 51 j (fun q => q.elim (fun h => absurd h.1 (nn rfl)) (fun q => q.elim (fun h => absurd h.1 (nn rfl)) (fun h => absurd h.1 (nn rfl)))))
                have hA_233 : Ce (c_77 (A + 7) 5) (c_83 (A + 9)) (c_214 50) (c_214 51) := ce_le hA_232 (by omega)
                refine v_cv rfl rfl rfl rfl (by decide) ⟨⟨rfl, rfl⟩, by decide, rfl⟩ (Nat.le_of_ble_eq_true rfl) (Nat.le_of_ble_eq_true rfl) (H13 (m := c_83) (e1 := e1) (f0 := c_83 1 4) (g0 := c_83 1 5) (p0 := c_83 1 2) (n0 := c_77 (A + 7) 5) (o0 := c_195 41 7) (by omega) (by omega) hI_215 hI_84 hI_90 (show 0 ≤ a2 + 1 ∧ a2 + 1 ≤ 6 from ⟨by first | exact rgp_l ha2.1 (by decide) | omega, by first | (clear ha2 hq0 hq1 hq2 hq3 hq4 hq5 hq8 h_1 h_2 h_3 h_4 h_5 h_6 h_7 h_8 h_9 h_10 h_11 h_46 h_65 h_66 h_75 h_76 h_81 h_82 h_87 h_88 h_93 h_94 h_99 h_101 h_103 h_104 h_105 h_106 h_107 h_108 h_109 h_110 h_111 h_112 h_113 h_114 h_115 h_116 h_117 h_118 h_119 h_121 h_134 h_136 h_175 h_176 h_177 h_178 h_179 h_180 h_203 h_204 h_205 h_206 h_201 h_207 h_208 h_209 h_210 h_211 h_221 h_222 h_223 h_224 h_225 h_226 hq6 hq7 h_12 h_21 h_37 h_120 h_132 h_173 h_174 h_200 h_219 h_220; omega) | omega⟩) (by first | (clear ha2 hq0 hq1 hq2 hq3 hq4 hq5 hq8 h_1 h_2 h_3 h_4 h_5 h_6 h_7 h_8 h_9 h_10 h_11 h_46 h_65 h_66 h_70 h_75 h_76 h_81 h_82 h_93 h_94 h_99 h_101 h_103 h_104 h_105 h_106 h_107 h_108 h_109 h_110 h_111 h_112 h_113 h_114 h_115 h_116 h_117 h_118 h_119 h_121 h_134 h_136 h_175 h_176 h_177 h_178 h_179 h_180 h_203 h_204 h_205 h_206 h_201 h_207 h_208 h_209 h_210 h_211 h_221 h_222 h_223 h_224 h_225 h_226 hq6 hq7 h_12 h_21 h_37 h_120 h_132 h_173 h_174 h_200 h_219 h_220; omega) | omega) (by first | (clear ha2 hq0 hq1 hq2 hq3 hq4 hq5 hq8 h_1 h_2 h_3 h_4 h_5 h_6 h_7 h_8 h_9 h_10 h_11 h_46 h_65 h_66 h_70 h_75 h_76 h_81 h_82 h_87 h_88 h_93 h_94 h_99 h_101 h_103 h_104 h_105 h_106 h_107 h_108 h_109 h_110 h_111 h_112 h_113 h_114 h_115 h_116 h_117 h_118 h_119 h_121 h_134 h_136 h_175 h_176 h_177 h_178 h_179 h_180 h_203 h_204 h_205 h_206 h_201 h_207 h_208 h_209 h_210 h_211 h_221 h_222 h_224 h_225 hq6 hq7 h_12 h_21 h_37 h_120 h_132 h_173 h_174 h_200 h_219 h_220; omega) | omega) (by first | (clear ha2 hq0 hq1 hq2 hq3 hq4 hq5 hq8 h_1 h_2 h_3 h_4 h_5 h_6 h_7 h_8 h_9 h_10 h_11 h_46 h_65 h_66 h_70 h_75 h_76 h_81 h_82 h_87 h_88 h_93 h_94 h_99 h_101 h_103 h_104 h_105 h_106 h_107 h_108 h_109 h_110 h_111 h_112 h_113 h_114 h_115 h_116 h_117 h_118 h_119 h_121 h_134 h_136 h_175 h_176 h_177 h_178 h_179 h_180 h_203 h_204 h_205 h_206 h_207 h_208 h_209 h_210 h_211 h_221 h_222 h_223 h_224 h_225 h_226 hq6 hq7 h_12 h_21 h_37 h_120 h_132 h_173 h_174 h_200 h_219 h_220; omega) | omega) (by first | (clear ha2 hq0 hq1 hq2 hq8 h_3 h_4 h_5 h_8 h_9 h_11 h_65 h_66 h_70 h_75 h_76 h_93 h_94 h_99 h_101 h_103 h_104 h_105 h_106 h_107 h_108 h_109 h_110 h_111 h_112 h_113 h_114 h_115 h_116 h_117 h_118 h_119 h_121 h_134 h_136 h_176 h_177 h_178 h_179 h_206 h_201 h_207 h_208 h_209 h_210 h_225 h_132 h_174; omega) | omega) (by first | (clear ha2 hq0 hq1 hq2 hq3 hq8 h_3 h_4 h_5 h_6 h_7 h_8 h_9 h_11 h_65 h_66 h_70 h_75 h_76 h_81 h_82 h_87 h_88 h_93 h_94 h_99 h_101 h_103 h_104 h_105 h_106 h_107 h_108 h_109 h_110 h_111 h_112 h_113 h_114 h_115 h_116 h_117 h_118 h_119 h_121 h_134 h_136 h_175 h_176 h_177 h_178 h_179 h_180 h_203 h_204 h_205 h_206 h_201 h_207 h_208 h_209 h_210 h_211 h_222 h_223 h_224 h_225 h_132 h_174 h_220; omega) | omega) (by first | (clear ha2 hq0 hq1 hq2 hq3 hq4 hq8 h_1 h_2 h_3 h_4 h_5 h_6 h_7 h_8 h_9 h_10 h_11 h_46 h_65 h_66 h_70 h_75 h_76 h_81 h_82 h_87 h_88 h_93 h_94 h_99 h_101 h_103 h_104 h_105 h_106 h_107 h_108 h_109 h_110 h_111 h_112 h_113 h_114 h_115 h_116 h_117 h_118 h_119 h_121 h_134 h_136 h_175 h_176 h_177 h_178 h_179 h_180 h_203 h_204 h_205 h_206 h_201 h_207 h_208 h_209 h_210 h_211 h_221 h_222 h_223 h_224 h_225 h_226 hq6 hq7 h_12 h_21 h_37 h_120 h_132 h_173 h_174 h_200 h_219 h_220; omega) | omega) ((hid kn_227)) ((hid kn_228)) (rfl) (rfl) (rfl) ((hid kn_229)) (((show _ = c_195 41 29 from (hid kn_230)).trans (by omega))) ((hid kn_231)) (fun j => ((hF_85 2 j (fun q => q.elim (fun h => absurd h.1 (nn rfl)) (fun q => q.elim (fun h => absurd h.1 (nn rfl)) (fun h => absurd h.1 (nn rfl))))).trans ((hF_79 2 j (fun q => q.elim (fun h => absurd h.1 (nn rfl)) (fun q => q.elim (fun h => absurd h.1 (nn rfl)) (fun q => q.elim (fun h => absurd h.1 (nn rfl)) (fun q => q.elim (fun h => absurd h.1 (pn hA rfl rfl)) (fun h => absurd h (pn hA rfl rfl))))))).trans ((hF_73 2 j (fun q => q.elim (fun h => absurd h.1 (nn rfl)) (fun q => q.elim (fun h => absurd h.1 (nn rfl)) (fun h => absurd h.1 (nn rfl))))).trans ((hF_64 2 j (fun q => q.elim (fun h => absurd h.1 (nn rfl)) (fun q => q.elim (fun h => absurd h.1 (nn rfl)) (fun h => absurd h.1 (nn rfl))))).trans ((hF_36 2 j (fun h => absurd h.1 (nn rfl))).trans ((hF_26 2 j (fun h => absurd h.1 (nn rfl))).trans (hF_20 2 j (fun h => absurd h.1 (nn rfl))))))))).trans (hF j)) (fun j => ((hF_216 43 j (fun q => q.elim (fun h => absurd h.1 (nn rfl)) (fun q => q.elim (fun h => absurd h.1 (nn rfl)) (fun h => absurd h.1 (nn rfl))))).trans ((hF_197 43 j (fun q => q.elim (fun h => absurd h.1 (nn rfl)) (fun q => q.elim (fun h => absurd h.1 (nn rfl)) (fun q => q.elim (fun h => absurd h.1 (nn rfl)) (fun q => q.elim (fun h => absurd h.1 (nn rfl)) (fun q => q.elim (fun h => absurd h.1 (nn rfl)) (fun q => q.elim (fun h => absurd h (nn rfl)) (fun h => absurd h (nn rfl))))))))).trans ((hF_170 43 j (fun q => q.elim (fun h => absurd h.1 (nn rfl)) (fun q => q.elim (fun h => absurd h.1 (nn rfl)) (fun h => absurd h.1 (nn rfl))))).trans ((up_c (nn rfl)).trans ((up_c (nn rfl)).trans ((hF_144 43 j (fun h => absurd h.1 (nn rfl))).trans ((hF_139 43 j (fun h => absurd h.1 (nn rfl))).trans ((hF_129 43 j (fun h => absurd h.1 (nn rfl))).trans (hF_124 43 j (fun h => absurd h.1 (nn rfl))))))))))).trans (hH j)) hU hR_218 (ce_le hA_233 (by omega)) hG_92 (fun c_234 hI_235 hF_236 hR_238 h_239 h_240 hA_241 => ?_))
                refine bk_inl ?_
                have h_242 := ir_41_29 hI_235
                have h_243 := ir_1_2 hI_90
                have h_244 := ir_41_7 hI_235
                refine q_aload_n rfl rfl ?_
                refine v_bip rfl (by decide) ?_
                have h_245 := ir_41_5 hI_235
                have h_246 := ir_1_5 hI_90
                have h_247 := ir_41_4 hI_235
                have h_248 := ir_41_6 hI_235
                have h_249 := rt_ok hR_238 (by omega)
                have hro_hR_238 := rt_ok hR_238 (by omega)
                refine v_cv rfl rfl rfl rfl (by decide) ⟨⟨rfl, rfl⟩, by decide, rfl⟩ (Nat.le_of_ble_eq_true rfl) (Nat.le_of_ble_eq_true rfl) ?_
                refine q_aload_n rfl rfl ?_
                refine v_cv rfl rfl rfl rfl (by decide) ⟨⟨rfl, rfl⟩, by decide, rfl⟩ (Nat.le_of_ble_eq_true rfl) (Nat.le_of_ble_eq_true rfl) ?_
                refine q_aload_n rfl rfl ?_
                refine v_gi (z := 5) (v := (-1)) rfl rfl rfl (by decide) rfl rfl hro_hR_238.2.1 ?_
                refine q_iconst rfl ?_
                refine v_ic_ne_f (t := 12) rfl (by decide) (by decide) ?_
                refine q_iconst rfl ?_
                refine q_goto (t := 13) rfl (by decide) ?_
                refine v_zret rfl rfl (by decide) ?_
                refine bk_inl ?_
                refine v_if_eq_f (t := 24) rfl (by decide) (by decide) ?_
                refine q_aload_n rfl rfl ?_
                have kn_250 : Hid (c_234 41 3 = e1) := (hF_236 41 3 (fun q => q.elim (fun h => absurd h.2 (ni rfl)) (fun q => q.elim (fun h => absurd h.2 (ni rfl)) (fun q => q.elim (fun h => absurd h.2 (ni rfl)) (fun q => q.elim (fun h => absurd h.2 (ni rfl)) (fun q => q.elim (fun h => absurd h.2 (ni rfl)) (fun q => q.elim (fun h => absurd h (nn rfl)) (fun h => absurd h (nn rfl))))))))).trans (hid kn_228)
                have h_251 : -2147483648 ≤ (F (c_89 1 2)) ∧ (F (c_89 1 2)) ≤ 2147483647 := by rw [← hF (c_89 1 2)]; exact ir_2 hJ (c_89 1 2)
                have h_252 : -2147483648 ≤ (H (c_89 1 2)) ∧ (H (c_89 1 2)) ≤ 2147483647 := by rw [← hH (c_89 1 2)]; exact ir_43 hI (c_89 1 2)
                have h_253 := hU (c_89 1 2) (by omega) (by omega)
                have h_254 := hb_or (b := H) (e := e1) (r := c_89 1 2)
                have h_255 := hb_bd (b := H) (e := e1) (r := c_89 1 2) (lo := -2147483648) (hi := 2147483647) h_252 (by decide)
                refine v_cv rfl rfl rfl rfl (by decide) ⟨⟨rfl, rfl⟩, by decide, rfl⟩ (Nat.le_of_ble_eq_true rfl) (Nat.le_of_ble_eq_true rfl) (f_154 (e1 := e1) (a9 := c_89 1 2) (B := H) (r8 := c_89 1 2) (r := (hb H e1 (c_89 1 2))) hI_235 ((hid kn_250)) (hro_hR_238.2.2.1) (fun j => ((hF_236 43 j (fun q => q.elim (fun h => absurd h.1 (nn rfl)) (fun q => q.elim (fun h => absurd h.1 (nn rfl)) (fun q => q.elim (fun h => absurd h.1 (nn rfl)) (fun q => q.elim (fun h => absurd h.1 (nn rfl)) (fun q => q.elim (fun h => absurd h.1 (nn rfl)) (fun q => q.elim (fun h => absurd h (nn rfl)) (fun h => absurd h (nn rfl))))))))).trans ((hF_216 43 j (fun q => q.elim (fun h => absurd h.1 (nn rfl)) (fun q => q.elim (fun h => absurd h.1 (nn rfl)) (fun h => absurd h.1 (nn rfl))))).trans ((hF_197 43 j (fun q => q.elim (fun h => absurd h.1 (nn rfl)) (fun q => q.elim (fun h => absurd h.1 (nn rfl)) (fun q => q.elim (fun h => absurd h.1 (nn rfl)) (fun q => q.elim (fun h => absurd h.1 (nn rfl)) (fun q => q.elim (fun h => absurd h.1 (nn rfl)) (fun q => q.elim (fun h => absurd h (nn rfl)) (fun h => absurd h (nn rfl))))))))).trans ((hF_170 43 j (fun q => q.elim (fun h => absurd h.1 (nn rfl)) (fun q => q.elim (fun h => absurd h.1 (nn rfl)) (fun h => absurd h.1 (nn rfl))))).trans ((up_c (nn rfl)).trans ((up_c (nn rfl)).trans ((hF_144 43 j (fun h => absurd h.1 (nn rfl))).trans ((hF_139 43 j (fun h => absurd h.1 (nn rfl))).trans ((hF_129 43 j (fun h => absurd h.1 (nn rfl))).trans (hF_124 43 j (fun h => absurd h.1 (nn rfl)))))))))))).trans (hH j)) ((nx_tr hU (by first | (clear ha2 hq0 hq1 hq2 hq3 hq4 hq5 hq8 h_1 h_2 h_3 h_4 h_5 h_6 h_7 h_8 h_9 h_10 h_11 h_46 h_65 h_66 h_70 h_75 h_76 h_81 h_82 h_87 h_88 h_93 h_94 h_99 h_101 h_103 h_104 h_105 h_106 h_107 h_108 h_109 h_110 h_111 h_112 h_113 h_114 h_115 h_116 h_117 h_118 h_119 h_121 h_134 h_136 h_175 h_176 h_177 h_178 h_179 h_180 h_203 h_204 h_205 h_206 h_201 h_207 h_208 h_209 h_210 h_211 h_221 h_222 h_223 h_224 h_225 h_226 h_242 h_244 h_240 h_245 h_246 h_247 h_248 h_249 h_251 hq6 hq7 h_12 h_21 h_37 h_120 h_132 h_173 h_174 h_200 h_219 h_220 h_239; omega) | omega) (by first | (clear ha2 hq0 hq1 hq2 hq3 hq4 hq8 h_1 h_2 h_3 h_4 h_5 h_6 h_7 h_8 h_9 h_10 h_11 h_46 h_65 h_66 h_70 h_75 h_76 h_81 h_82 h_87 h_88 h_93 h_94 h_99 h_101 h_103 h_104 h_105 h_106 h_107 h_108 h_109 h_110 h_111 h_112 h_113 h_114 h_115 h_116 h_117 h_118 h_119 h_121 h_134 h_136 h_175 h_176 h_177 h_178 h_179 h_180 h_203 h_204 h_205 h_206 h_201 h_207 h_208 h_209 h_210 h_211 h_221 h_222 h_223 h_224 h_225 h_226 h_242 h_243 h_244 h_240 h_245 h_246 h_247 h_248 h_249 h_251 hq6 hq7 h_12 h_21 h_37 h_120 h_132 h_173 h_174 h_200 h_219 h_220 h_239; omega) | omega)).trans ((nx_z (by omega)))) rfl (fun c_256 hI_257 hF_258 h_259 => ?_))
                refine bk_inl ?_
                refine q_iload_n rfl rfl ?_
                refine v_ic_eq_f (t := 24) rfl (by decide) ⟨by first | (clear ha2 hq0 hq1 hq2 hq8 h_3 h_4 h_8 h_9 h_65 h_66 h_70 h_103 h_104 h_105 h_106 h_107 h_108 h_109 h_110 h_111 h_112 h_114 h_115 h_116 h_117 h_134 h_176 h_177 h_178 h_179 h_206 h_201 h_207 h_208 h_209 h_210 h_222 h_223 h_224 h_225 h_244 h_240 h_248; omega) | omega, ⟨h_255.1, h_255.2⟩, by decide, by decide⟩ ?_
                refine q_aload_n rfl rfl ?_
                refine q_iconst rfl ?_
                refine q_aload_n rfl rfl ?_
                refine v_gi (z := 4) (v := c_89 1 2) rfl rfl rfl (by decide) rfl rfl (h_259) ?_
                refine v_cv rfl rfl rfl rfl (by decide) ⟨⟨rfl, rfl⟩, by decide, rfl⟩ (Nat.le_of_ble_eq_true rfl) (Nat.le_of_ble_eq_true rfl) ?_
                refine q_aload_n rfl rfl ?_
                have kn_260 : Hid (c_256 41 5 = (-1)) := (hF_258 41 5 (fun h => absurd h.2 (ni rfl))).trans hro_hR_238.2.1
                refine v_gi (z := 5) (v := (-1)) rfl rfl rfl (by decide) rfl rfl (hid kn_260) ?_
                refine q_iconst rfl ?_
                refine v_ic_eq_t (t := 9) rfl (by decide) (by decide) ?_
                refine q_aload_n rfl rfl ?_
                refine q_iload_n rfl rfl ?_
                refine v_pi (z := 5) rfl rfl rfl (by decide) rfl rfl rfl (by decide) ?_
                refine q_aload_n rfl rfl ?_
                refine q_iload_n rfl rfl ?_
                refine v_pi (z := 6) rfl rfl rfl (by decide) rfl rfl rfl (by decide) ?_
                refine q_vret rfl rfl ?_
                refine bk_inl ?_
                refine q_aload_n rfl rfl ?_
                refine v_cv rfl rfl rfl rfl (by decide) ⟨⟨rfl, rfl⟩, by decide, rfl⟩ (Nat.le_of_ble_eq_true rfl) (Nat.le_of_ble_eq_true rfl) ?_
                refine q_aload_n rfl rfl ?_
                refine v_gi (z := 5) (v := c_89 1 2) rfl rfl rfl (by decide) rfl rfl ((up_n (by decide)).trans (up_e rfl)) ?_
                refine q_iconst rfl ?_
                refine v_ic_ne_f (t := 12) rfl (by decide) (by first | (clear ha2 hq0 hq1 hq2 hq8 h_3 h_4 h_8 h_9 h_65 h_66 h_70 h_103 h_104 h_105 h_106 h_107 h_108 h_109 h_110 h_111 h_114 h_115 h_116 h_117 h_134 h_176 h_177 h_178 h_179 h_206 h_201 h_207 h_208 h_209 h_210 h_225 h_244 h_240 h_248; omega) | omega) ?_
                refine q_iconst rfl ?_
                refine q_goto (t := 13) rfl (by decide) ?_
                refine v_zret rfl rfl (by decide) ?_
                refine bk_inl ?_
                refine v_if_eq_f (t := 41) rfl (by decide) (by decide) ?_
                refine q_aload_n rfl rfl ?_
                refine q_dup rfl rfl ?_
                refine v_gi (z := 4) (v := c_89 1 2) rfl rfl rfl (by decide) rfl rfl ((up_n (by decide)).trans ((up_n (by decide)).trans (h_259))) ?_
                refine q_iconst rfl ?_
                refine v_iadd (v := c_89 1 2 + 1) rfl rfl ?_
                refine v_pi (z := 4) rfl rfl rfl (by decide) rfl rfl rfl (by decide) ?_
                refine q_vret rfl rfl ?_
                refine bk_inl ?_
                refine q_aload_n rfl rfl ?_
                refine q_dup rfl rfl ?_
                have kn_261 : Hid (c_256 41 7 = c_234 41 7) := hF_258 41 7 (fun h => absurd h.2 (ni rfl))
                refine v_gi (z := 7) (v := c_234 41 7) rfl rfl rfl (by decide) rfl rfl ((up_n (by decide)).trans ((up_n (by decide)).trans ((up_n (by decide)).trans (hid kn_261)))) ?_
                refine q_iconst rfl ?_
                refine v_isub (v := c_234 41 7 - 1) rfl rfl ?_
                refine v_pi (z := 7) rfl rfl rfl (by decide) rfl rfl rfl (by decide) ?_
                refine q_aload_n rfl rfl ?_
                refine q_iload_n rfl rfl ?_
                refine q_iconst rfl ?_
                refine v_cv rfl rfl rfl rfl (by decide) ⟨⟨rfl, rfl⟩, by decide, rfl⟩ (Nat.le_of_ble_eq_true rfl) (Nat.le_of_ble_eq_true rfl) ?_
                refine q_aload_n rfl rfl ?_
                refine v_cv rfl rfl rfl rfl (by decide) ⟨⟨rfl, rfl⟩, by decide, rfl⟩ (Nat.le_of_ble_eq_true rfl) (Nat.le_of_ble_eq_true rfl) ?_
                refine q_aload_n rfl rfl ?_
                refine v_gi (z := 5) (v := c_89 1 2) rfl rfl rfl (by decide) rfl rfl ((up_n (by decide)).trans ((up_n (by decide)).trans ((up_n (by decide)).trans (up_e rfl)))) ?_
                refine q_iconst rfl ?_
                refine v_ic_ne_f (t := 12) rfl (by decide) (by first | (clear ha2 hq0 hq1 hq2 hq8 h_3 h_4 h_8 h_9 h_65 h_66 h_70 h_103 h_104 h_105 h_106 h_107 h_108 h_109 h_110 h_111 h_114 h_115 h_116 h_117 h_134 h_176 h_177 h_178 h_179 h_206 h_201 h_207 h_208 h_209 h_210 h_225 h_244 h_240 h_248; omega) | omega) ?_
                refine q_iconst rfl ?_
                refine q_goto (t := 13) rfl (by decide) ?_
                refine v_zret rfl rfl (by decide) ?_
                refine bk_inl ?_
                refine v_if_ne_t (t := 8) rfl (by decide) (by decide) ?_
                refine q_aload_n rfl rfl ?_
                refine v_gr (t := 50) rfl rfl rfl (by decide) rfl ?_
                refine q_aload_n rfl rfl ?_
                have kn_262 : Hid (c_256 41 29 = c_234 41 29) := hF_258 41 29 (fun h => absurd h.2 (ni rfl))
                refine v_gi (z := 29) (v := c_234 41 29) rfl rfl rfl (by decide) rfl rfl ((up_n (by decide)).trans ((up_n (by decide)).trans ((up_n (by decide)).trans ((up_n (by decide)).trans (hid kn_262))))) ?_
                refine q_iload_n rfl rfl ?_
                refine v_is rfl rfl (by decide) (by decide) (by omega) ?_
                refine q_aload_n rfl rfl ?_
                refine v_gr (t := 51) rfl rfl rfl (by decide) rfl ?_
                refine q_aload_n rfl rfl ?_
                refine v_gi (z := 29) (v := c_234 41 29) rfl rfl rfl (by decide) rfl rfl ((up_c (nn rfl)).trans ((up_n (by decide)).trans ((up_n (by decide)).trans ((up_n (by decide)).trans ((up_n (by decide)).trans (hid kn_262)))))) ?_
                refine q_iload_n rfl rfl ?_
                refine v_is rfl rfl (by decide) (by decide) (by omega) ?_
                refine q_aload_n rfl rfl ?_
                refine q_dup rfl rfl ?_
                refine v_gi (z := 29) (v := c_234 41 29) rfl rfl rfl (by decide) rfl rfl ((up_c (nn rfl)).trans ((up_c (nn rfl)).trans ((up_n (by decide)).trans ((up_n (by decide)).trans ((up_n (by decide)).trans ((up_n (by decide)).trans (hid kn_262))))))) ?_
                refine q_iconst rfl ?_
                refine v_iadd (v := c_234 41 29 + 1) rfl rfl ?_
                refine v_pi (z := 29) rfl rfl rfl (by decide) rfl rfl rfl (by decide) ?_
                refine q_vret rfl rfl ?_
                refine bk_inl ?_
                refine q_vret rfl rfl ?_
                refine bk_inl ?_
                refine q_goto (t := 154) rfl (by decide) ?_
                refine q_vret rfl rfl ?_
                exfalso; omega
              · refine v_ic_ge_f (t := 32) rfl (by decide) ⟨by first | (clear ha2 hq0 hq1 hq2 hq3 hq4 hq5 hq8 h_1 h_2 h_3 h_4 h_5 h_6 h_7 h_8 h_9 h_10 h_11 h_46 h_65 h_66 h_70 h_75 h_76 h_81 h_82 h_87 h_88 h_93 h_94 hq6 hq7 h_12 h_21 h_37; omega) | omega, (Int.not_le.mp h_101), by decide⟩ ?_
                refine q_aload_n rfl rfl ?_
                refine v_gr (t := (A + 9)) rfl rfl (ck_p7 hA) (a68 hA rfl) rfl ?_
                refine q_aload_n rfl rfl ?_
                refine v_gi (z := 5) (v := c_89 (A + 7) 5) rfl rfl (ck_p7 hA) (a68 hA rfl) rfl rfl (hid kn_100) ?_
                refine q_iload_n rfl rfl ?_
                refine v_is rfl (ck_p9 hA) (a68 hA rfl) (by decide) (by omega) ?_
                refine q_aload_n rfl rfl ?_
                refine q_dup rfl rfl ?_
                refine v_gi (z := 5) (v := c_89 (A + 7) 5) rfl rfl (ck_p7 hA) (a68 hA rfl) rfl rfl ((up_c (pp rfl)).trans (hid kn_100)) ?_
                refine q_iconst rfl ?_
                refine v_iadd (v := c_89 (A + 7) 5 + 1) rfl rfl ?_
                refine v_pi (z := 5) rfl rfl (ck_p7 hA) (a68 hA rfl) rfl rfl rfl (by decide) ?_
                refine q_vret rfl rfl ?_
                refine bk_inl ?_
                refine q_vret rfl rfl ?_
                have hI_263 := iw_lg (j := c_89 (A + 7) 5) (v := (wd1_0 F (nx F e1 p0) (ln F e1 (nx F e1 p0))) + 1997) hI_96 (lgp (k := 9) hA (by decide)) ⟨by omega, by omega⟩ (by omega)
                have hI_264 := iw_p7_5 (v := c_89 (A + 7) 5 + 1) hI_263 hA ⟨by first | (clear ha2 hq0 hq1 hq2 hq3 hq4 hq5 hq8 h_1 h_2 h_3 h_4 h_5 h_6 h_7 h_8 h_9 h_10 h_11 h_46 h_65 h_66 h_70 h_75 h_76 h_81 h_82 h_87 h_88 h_93 h_94 hq6 hq7 h_12 h_21 h_37; omega) | omega, by first | (clear ha2 hq0 hq1 hq2 hq3 hq4 hq5 hq8 h_1 h_2 h_3 h_4 h_5 h_6 h_7 h_8 h_9 h_10 h_11 h_46 h_65 h_66 h_70 h_75 h_76 h_81 h_82 h_87 h_88 h_93 h_94 h_99 hq6 hq7 h_12 h_21 h_37; omega) | omega⟩
                intro hE_265
                have hW : Wd P Q P P (up (up c_95 (A + 9) (c_89 (A + 7) 5) ((wd1_0 F (nx F e1 p0) (ln F e1 (nx F e1 p0))) + 1997)) (A + 7) 5 (c_89 (A + 7) 5 + 1)) = Wd P Q P P m9 := (Prod.mk.inj (Prod.mk.inj hE_265).2).1
                have h_266 := ir_1_4 hI_96
                have h_267 := ir_1_4 hJ9
                have h_268 : m9 1 4 = c_95 1 4 := wd_fv (z := 4) 4 rfl hW rfl rfl rfl rfl (by decide) ((up_c (pn hA rfl rfl)).trans (up_c (pn hA rfl rfl))) ⟨(Int.le_trans (by decide) h_266.1), (Int.le_trans h_266.2 (by decide))⟩ ⟨(Int.le_trans (by decide) h_267.1), (Int.le_trans h_267.2 (by decide))⟩
                have h_269 := ir_1_2 hI_96
                have h_270 := ir_1_2 hJ9
                have h_271 : m9 1 2 = c_95 1 2 := wd_fv (z := 2) 2 rfl hW rfl rfl rfl rfl (by decide) ((up_c (pn hA rfl rfl)).trans (up_c (pn hA rfl rfl))) ⟨(Int.le_trans (by decide) h_269.1), (Int.le_trans h_269.2 (by decide))⟩ ⟨(Int.le_trans (by decide) h_270.1), (Int.le_trans h_270.2 (by decide))⟩
                have h_272 := ir_1_5 hI_96
                have h_273 := ir_1_5 hJ9
                have h_274 : m9 1 5 = c_95 1 5 := wd_fv (z := 5) 5 rfl hW rfl rfl rfl rfl (by decide) ((up_c (pn hA rfl rfl)).trans (up_c (pn hA rfl rfl))) ⟨(Int.le_trans (by decide) h_272.1), (Int.le_trans h_272.2 (by decide))⟩ ⟨(Int.le_trans (by decide) h_273.1), (Int.le_trans h_273.2 (by decide))⟩
                have h_275 := ir_p7_5 hJ9 hA
                have h_276 : m9 (A + 7) 5 = c_89 (A + 7) 5 + 1 := wd_fv (z := 5) 5 rfl hW (ck_p7 hA) (ck_p7 hA) rfl rfl (by omega) (up_e rfl) ⟨by first | (clear ha2 hq0 hq1 hq2 hq3 hq4 hq5 hq8 h_1 h_2 h_3 h_4 h_5 h_6 h_7 h_8 h_9 h_10 h_11 h_46 h_65 h_66 h_70 h_75 h_76 h_81 h_82 h_87 h_88 h_93 h_94 h_266 h_267 h_268 h_269 h_270 h_271 h_272 h_273 h_274 h_275 hq6 hq7 h_12 h_21 h_37; omega) | omega, by first | (clear ha2 hq0 hq1 hq2 hq3 hq4 hq5 hq8 h_1 h_2 h_3 h_4 h_5 h_6 h_7 h_8 h_9 h_10 h_11 h_46 h_65 h_66 h_70 h_75 h_76 h_81 h_82 h_87 h_88 h_93 h_94 h_99 h_266 h_267 h_268 h_269 h_270 h_271 h_272 h_273 h_274 h_275 hq6 hq7 h_12 h_21 h_37; omega) | omega⟩ ⟨(Int.le_trans (by decide) h_275.1), (Int.le_trans h_275.2 (by decide))⟩
                refine q_aload_n rfl rfl ?_
                refine v_cv rfl rfl rfl rfl (by decide) ⟨⟨rfl, rfl⟩, by decide, rfl⟩ (Nat.le_of_ble_eq_true rfl) (Nat.le_of_ble_eq_true rfl) ?_
                refine q_aload_n rfl rfl ?_
                have h_277 := ir_41_5 hI
                have h_278 := ir_41_4 hI
                have h_279 := ir_41_6 hI
                have h_280 := rt_ok hRt (by omega)
                have hro_hRt := rt_ok hRt (by omega)
                refine v_gi (z := 5) (v := (-1)) rfl rfl rfl (by decide) rfl rfl hro_hRt.2.1 ?_
                refine q_iconst rfl ?_
                refine v_ic_ne_f (t := 12) rfl (by decide) (by decide) ?_
                refine q_iconst rfl ?_
                refine q_goto (t := 13) rfl (by decide) ?_
                refine v_zret rfl rfl (by decide) ?_
                refine bk_inl ?_
                refine v_if_ne_t (t := 8) rfl (by decide) (by decide) ?_
                refine q_aload_n rfl rfl ?_
                have h_281 : -2147483648 ≤ (H (nx F e1 p0)) ∧ (H (nx F e1 p0)) ≤ 2147483647 := by rw [← hH (nx F e1 p0)]; exact ir_43 hI (nx F e1 p0)
                have h_282 := hU (nx F e1 p0) (by omega) (by omega)
                have h_283 := hb_or (b := H) (e := e1) (r := (nx F e1 p0))
                have h_284 := hb_bd (b := H) (e := e1) (r := (nx F e1 p0)) (lo := -2147483648) (hi := 2147483647) h_281 (by decide)
                refine v_cv rfl rfl rfl rfl (by decide) ⟨⟨rfl, rfl⟩, by decide, rfl⟩ (Nat.le_of_ble_eq_true rfl) (Nat.le_of_ble_eq_true rfl) (f_154 (e1 := e1) (a9 := p0) (B := H) (r8 := (nx F e1 p0)) (r := (hb H e1 (nx F e1 p0))) hI ((hr_e1)) (((hro_hRt.2.2.1).trans ((hg_p0)))) (fun j => hH j) ((nx_tr hU (by first | (clear ha2 hq0 hq1 hq2 hq3 hq4 hq5 hq8 h_1 h_2 h_3 h_4 h_6 h_7 h_8 h_9 h_10 h_11 h_46 h_65 h_66 h_70 h_75 h_76 h_81 h_82 h_87 h_88 h_93 h_94 h_99 h_266 h_267 h_268 h_269 h_270 h_271 h_272 h_273 h_274 h_275 h_276 h_277 h_278 h_279 h_280 hq6 hq7 h_12 h_21 h_37; omega) | omega) (by first | (clear ha2 hq0 hq1 hq2 hq3 hq4 hq8 h_1 h_2 h_3 h_4 h_5 h_6 h_7 h_8 h_9 h_10 h_11 h_46 h_65 h_66 h_70 h_75 h_76 h_81 h_82 h_87 h_88 h_93 h_94 h_99 h_266 h_267 h_268 h_269 h_270 h_271 h_272 h_273 h_274 h_275 h_276 h_277 h_278 h_279 h_280 hq6 hq7 h_12 h_21 h_37; omega) | omega)).trans (rfl)) rfl (fun c_285 hI_286 hF_287 h_288 => ?_))
                refine bk_inl ?_
                refine v_bip rfl (by decide) ?_
                refine v_ic_ne_t (t := 45) rfl (by decide) ⟨by first | (clear ha2 hq0 hq1 hq2 hq3 hq8 h_3 h_4 h_5 h_6 h_7 h_8 h_9 h_11 h_65 h_66 h_70 h_75 h_76 h_81 h_82 h_87 h_88 h_93 h_94 h_99 h_266 h_267 h_268 h_269 h_270 h_271 h_272 h_273 h_274 h_275 h_276 h_277 h_278 h_279 h_280; omega) | omega, ⟨h_284.1, h_284.2⟩, by decide, by decide⟩ ?_
                refine q_aload_n rfl rfl ?_
                have kn_289 : Hid (c_285 41 3 = e1) := (hF_287 41 3 (fun h => absurd h.2 (ni rfl))).trans (hr_e1)
                refine v_cv rfl rfl rfl rfl (by decide) ⟨⟨rfl, rfl⟩, by decide, rfl⟩ (Nat.le_of_ble_eq_true rfl) (Nat.le_of_ble_eq_true rfl) (f_154 (e1 := e1) (a9 := (nx F e1 p0)) (B := H) (r8 := (nx F e1 p0)) (r := (hb H e1 (nx F e1 p0))) hI_286 ((hid kn_289)) ((h_288)) (fun j => (hF_287 43 j (fun h => absurd h.1 (nn rfl))).trans (hH j)) ((nx_tr hU (by first | (clear ha2 hq0 hq1 hq2 hq3 hq4 hq5 hq8 h_1 h_2 h_3 h_4 h_6 h_7 h_8 h_9 h_11 h_46 h_65 h_66 h_70 h_75 h_76 h_81 h_82 h_87 h_88 h_93 h_94 h_99 h_266 h_267 h_268 h_269 h_270 h_271 h_272 h_273 h_274 h_275 h_276 h_277 h_278 h_279 h_280 h_281 h_282 h_284 hq6 hq7 h_12 h_21 h_37 h_283; omega) | omega) (by first | (clear ha2 hq0 hq1 hq2 hq3 hq4 hq8 h_1 h_2 h_3 h_4 h_5 h_6 h_7 h_8 h_9 h_10 h_11 h_46 h_65 h_66 h_70 h_75 h_76 h_81 h_82 h_87 h_88 h_93 h_94 h_99 h_266 h_267 h_268 h_269 h_270 h_271 h_272 h_273 h_274 h_275 h_276 h_277 h_278 h_279 h_280 h_281 h_282 h_284 hq6 hq7 h_12 h_21 h_37 h_283; omega) | omega)).trans ((nx_z (by omega)))) rfl (fun c_290 hI_291 hF_292 h_293 => ?_))
                refine bk_inl ?_
                refine q_call rfl rfl rfl rfl (f_156 (a0 := (hb H e1 (nx F e1 p0))) hI_291 (show (-2147483648) ≤ (hb H e1 (nx F e1 p0)) ∧ (hb H e1 (nx F e1 p0)) ≤ 2147483647 from h_284) (fun y_294 hy_294 h_295 => ?_))
                refine bk_inl ?_
                refine v_if_eq_t (t := 71) rfl (by decide) (by first | (clear ha2 hq0 hq1 hq2 hq3 hq8 h_3 h_4 h_5 h_6 h_7 h_8 h_9 h_11 h_65 h_66 h_70 h_75 h_76 h_81 h_82 h_87 h_88 h_93 h_94 h_99 h_266 h_267 h_268 h_269 h_270 h_271 h_272 h_273 h_274 h_275 h_276 h_277 h_278 h_279 h_280; omega) | omega) ?_
                refine q_aload_n rfl rfl ?_
                have kn_296 : Hid (c_290 41 3 = e1) := (hF_292 41 3 (fun h => absurd h.2 (ni rfl))).trans (hid kn_289)
                have h_297 := wv_bd (b := F) (r := (nx F e1 p0)) (l := (ln F e1 (nx F e1 p0))) (fun j h1 h2 => ⟨(ln_in (e := e1) (a := (nx F e1 p0)) h1 h2).1, (ln_in (e := e1) (a := (nx F e1 p0)) h1 h2).2.1⟩)
                have h_298 := wr1_9 (b := F) (r := (nx F e1 p0)) (l := (ln F e1 (nx F e1 p0))) (by omega) (fun j h1 h2 => ⟨(ln_in (e := e1) (a := (nx F e1 p0)) h1 h2).1, (ln_in (e := e1) (a := (nx F e1 p0)) h1 h2).2.1⟩) (by omega)
                have h_299 : (wv F (nx F e1 p0) (ln F e1 (nx F e1 p0))) = 441972 → (ln F e1 (nx F e1 p0)) - (nx F e1 p0) = 4 := wl_most (by omega) (fun j h1 h2 => ⟨(ln_in (e := e1) (a := (nx F e1 p0)) h1 h2).1, (ln_in (e := e1) (a := (nx F e1 p0)) h1 h2).2.1⟩)
                refine v_cv rfl rfl rfl rfl (by decide) ⟨⟨rfl, rfl⟩, by decide, rfl⟩ (Nat.le_of_ble_eq_true rfl) (Nat.le_of_ble_eq_true rfl) (f_157 (e1 := e1) (a9 := (nx F e1 p0)) (B := H) (r8 := (nx F e1 p0)) (L8 := (ln F e1 (nx F e1 p0))) (W8 := (wv F (nx F e1 p0) (ln F e1 (nx F e1 p0)))) hI_291 ((hid kn_296)) ((h_293)) (fun j => ((hF_292 43 j (fun h => absurd h.1 (nn rfl))).trans (hF_287 43 j (fun h => absurd h.1 (nn rfl)))).trans (hH j)) ((nx_tr hU (by first | (clear ha2 hq0 hq1 hq2 hq3 hq4 hq5 hq8 h_1 h_2 h_3 h_4 h_6 h_7 h_8 h_9 h_11 h_46 h_65 h_66 h_70 h_75 h_76 h_81 h_82 h_87 h_88 h_93 h_94 h_99 h_266 h_267 h_268 h_269 h_270 h_271 h_272 h_273 h_274 h_275 h_276 h_277 h_278 h_279 h_280 h_281 h_282 h_284 hq6 hq7 h_12 h_21 h_37 h_283 h_295; omega) | omega) (by first | (clear ha2 hq0 hq1 hq2 hq3 hq4 hq8 h_1 h_2 h_3 h_4 h_5 h_6 h_7 h_8 h_9 h_10 h_11 h_46 h_65 h_66 h_70 h_75 h_76 h_81 h_82 h_87 h_88 h_93 h_94 h_99 h_266 h_267 h_268 h_269 h_270 h_271 h_272 h_273 h_274 h_275 h_276 h_277 h_278 h_279 h_280 h_281 h_282 h_284 hq6 hq7 h_12 h_21 h_37 h_283 h_295; omega) | omega)).trans ((nx_z (by omega)))) ((ln_tr hU (by first | (clear ha2 hq0 hq1 hq2 hq3 hq4 hq5 hq8 h_1 h_2 h_3 h_4 h_6 h_7 h_8 h_9 h_11 h_46 h_65 h_66 h_70 h_75 h_76 h_81 h_82 h_87 h_88 h_93 h_94 h_99 h_266 h_267 h_268 h_269 h_270 h_271 h_272 h_273 h_274 h_275 h_276 h_277 h_278 h_279 h_280 h_281 h_282 h_284 hq6 hq7 h_12 h_21 h_37 h_283 h_295; omega) | omega) (by first | (clear ha2 hq0 hq1 hq2 hq3 hq4 hq8 h_1 h_2 h_3 h_4 h_5 h_6 h_7 h_8 h_9 h_10 h_11 h_46 h_65 h_66 h_70 h_75 h_76 h_81 h_82 h_87 h_88 h_93 h_94 h_99 h_266 h_267 h_268 h_269 h_270 h_271 h_272 h_273 h_274 h_275 h_276 h_277 h_278 h_279 h_280 h_281 h_282 h_284 hq6 hq7 h_12 h_21 h_37 h_283 h_295; omega) | omega)).trans (rfl)) ((wv_tr hU (by first | (clear ha2 hq0 hq1 hq2 hq3 hq4 hq5 hq8 h_1 h_2 h_3 h_4 h_6 h_7 h_8 h_9 h_11 h_46 h_65 h_66 h_70 h_75 h_76 h_81 h_82 h_87 h_88 h_93 h_94 h_99 h_266 h_267 h_268 h_269 h_270 h_271 h_272 h_273 h_274 h_275 h_276 h_277 h_278 h_279 h_280 h_281 h_282 h_284 h_297 h_299 hq6 hq7 h_12 h_21 h_37 h_283 h_295; omega) | omega) (by first | (clear ha2 hq0 hq1 hq2 hq3 hq4 hq8 h_1 h_2 h_3 h_4 h_5 h_6 h_7 h_8 h_9 h_10 h_11 h_65 h_66 h_70 h_75 h_76 h_81 h_82 h_87 h_88 h_93 h_94 h_99 h_266 h_267 h_268 h_269 h_270 h_271 h_272 h_273 h_274 h_275 h_276 h_277 h_278 h_279 h_280 h_281 h_282 h_284 h_297 h_299 hq6 hq7 h_12 h_21 h_37 h_283 h_295; omega) | omega) (fun j h1 h2 => ⟨(ln_in (e := e1) (a := (nx F e1 p0)) h1 h2).1, (ln_in (e := e1) (a := (nx F e1 p0)) h1 h2).2.1⟩)).trans (rfl)) (fun c_300 hI_301 hF_302 hz_303 => ?_))
                refine bk_inl ?_
                refine q_ldc_w_s rfl rfl rfl (by decide) ?_
                refine q_call rfl rfl rfl rfl (s_158_20 ?_)
                refine bk_inl ?_
                refine v_ic_ne_t (t := 94) rfl (by decide) ⟨by first | (clear ha2 hq0 hq1 hq2 hq3 hq4 hq5 hq8 h_1 h_2 h_3 h_4 h_5 h_6 h_7 h_8 h_9 h_10 h_11 h_46 h_65 h_66 h_70 h_75 h_76 h_81 h_82 h_87 h_88 h_93 h_94 h_99 h_266 h_267 h_268 h_269 h_270 h_271 h_272 h_273 h_274 h_275 h_276 h_277 h_278 h_279 h_280 h_281 h_282 h_284 h_297 hq6 hq7 h_12 h_21 h_37 h_283 h_295; omega) | omega, ⟨(Int.le_trans (by decide) h_297.1), (Int.le_trans h_297.2 (by decide))⟩, by decide, by decide⟩ ?_
                refine q_aload_n rfl rfl ?_
                have kn_304 : Hid (c_300 41 3 = e1) := (hF_302 41 3 (fun h => absurd h.2 (ni rfl))).trans (hid kn_296)
                refine v_cv rfl rfl rfl rfl (by decide) ⟨⟨rfl, rfl⟩, by decide, rfl⟩ (Nat.le_of_ble_eq_true rfl) (Nat.le_of_ble_eq_true rfl) (f_157 (e1 := e1) (a9 := (nx F e1 p0)) (B := H) (r8 := (nx F e1 p0)) (L8 := (ln F e1 (nx F e1 p0))) (W8 := (wv F (nx F e1 p0) (ln F e1 (nx F e1 p0)))) hI_301 ((hid kn_304)) ((hz_303)) (fun j => ((hF_302 43 j (fun h => absurd h.1 (nn rfl))).trans ((hF_292 43 j (fun h => absurd h.1 (nn rfl))).trans (hF_287 43 j (fun h => absurd h.1 (nn rfl))))).trans (hH j)) ((nx_tr hU (by first | (clear ha2 hq0 hq1 hq2 hq3 hq4 hq5 hq8 h_1 h_2 h_3 h_4 h_6 h_7 h_8 h_9 h_11 h_46 h_65 h_66 h_70 h_75 h_76 h_81 h_82 h_87 h_88 h_93 h_94 h_99 h_266 h_267 h_268 h_269 h_270 h_271 h_272 h_273 h_274 h_275 h_276 h_277 h_278 h_279 h_280 h_281 h_282 h_284 h_297 h_299 hq6 hq7 h_12 h_21 h_37 h_283 h_295; omega) | omega) (by first | (clear ha2 hq0 hq1 hq2 hq3 hq4 hq8 h_1 h_2 h_3 h_4 h_5 h_6 h_7 h_8 h_9 h_10 h_11 h_46 h_65 h_66 h_70 h_75 h_76 h_81 h_82 h_87 h_88 h_93 h_94 h_99 h_266 h_267 h_268 h_269 h_270 h_271 h_272 h_273 h_274 h_275 h_276 h_277 h_278 h_279 h_280 h_281 h_282 h_284 h_297 h_299 hq6 hq7 h_12 h_21 h_37 h_283 h_295; omega) | omega)).trans ((nx_z (by omega)))) ((ln_tr hU (by first | (clear ha2 hq0 hq1 hq2 hq3 hq4 hq5 hq8 h_1 h_2 h_3 h_4 h_6 h_7 h_8 h_9 h_11 h_46 h_65 h_66 h_70 h_75 h_76 h_81 h_82 h_87 h_88 h_93 h_94 h_99 h_266 h_267 h_268 h_269 h_270 h_271 h_272 h_273 h_274 h_275 h_276 h_277 h_278 h_279 h_280 h_281 h_282 h_284 h_297 h_299 hq6 hq7 h_12 h_21 h_37 h_283 h_295; omega) | omega) (by first | (clear ha2 hq0 hq1 hq2 hq3 hq4 hq8 h_1 h_2 h_3 h_4 h_5 h_6 h_7 h_8 h_9 h_10 h_11 h_46 h_65 h_66 h_70 h_75 h_76 h_81 h_82 h_87 h_88 h_93 h_94 h_99 h_266 h_267 h_268 h_269 h_270 h_271 h_272 h_273 h_274 h_275 h_276 h_277 h_278 h_279 h_280 h_281 h_282 h_284 h_297 h_299 hq6 hq7 h_12 h_21 h_37 h_283 h_295; omega) | omega)).trans (rfl)) ((wv_tr hU (by first | (clear ha2 hq0 hq1 hq2 hq3 hq4 hq5 hq8 h_1 h_2 h_3 h_4 h_6 h_7 h_8 h_9 h_11 h_46 h_65 h_66 h_70 h_75 h_76 h_81 h_82 h_87 h_88 h_93 h_94 h_99 h_266 h_267 h_268 h_269 h_270 h_271 h_272 h_273 h_274 h_275 h_276 h_277 h_278 h_279 h_280 h_281 h_282 h_284 h_297 h_299 hq6 hq7 h_12 h_21 h_37 h_283 h_295; omega) | omega) (by first | (clear ha2 hq0 hq1 hq2 hq3 hq4 hq8 h_1 h_2 h_3 h_4 h_5 h_6 h_7 h_8 h_9 h_10 h_11 h_65 h_66 h_70 h_75 h_76 h_81 h_82 h_87 h_88 h_93 h_94 h_99 h_266 h_267 h_268 h_269 h_270 h_271 h_272 h_273 h_274 h_275 h_276 h_277 h_278 h_279 h_280 h_281 h_282 h_284 h_297 h_299 hq6 hq7 h_12 h_21 h_37 h_283 h_295; omega) | omega) (fun j h1 h2 => ⟨(ln_in (e := e1) (a := (nx F e1 p0)) h1 h2).1, (ln_in (e := e1) (a := (nx F e1 p0)) h1 h2).2.1⟩)).trans (rfl)) (fun c_305 hI_306 hF_307 hz_308 => ?_))
                refine bk_inl ?_
                refine q_ldc_w_s rfl rfl rfl (by decide) ?_
                refine q_call rfl rfl rfl rfl (s_158_21 ?_)
                refine bk_inl ?_
                refine v_ic_ne_f (t := 117) rfl (by decide) (by first | (clear ha2 hq0 hq1 hq2 hq3 hq4 hq5 hq8 h_1 h_2 h_3 h_4 h_5 h_6 h_7 h_8 h_9 h_10 h_11 h_46 h_65 h_66 h_70 h_75 h_76 h_81 h_82 h_87 h_88 h_93 h_94 h_99 h_266 h_267 h_268 h_269 h_270 h_271 h_272 h_273 h_274 h_275 h_276 h_277 h_278 h_279 h_280 h_281 h_282 h_284 h_297 hq6 hq7 h_12 h_21 h_37 h_283 h_295; omega) | omega) ?_
                refine q_aload_n rfl rfl ?_
                refine q_iconst rfl ?_
                refine v_bip rfl (by decide) ?_
                refine v_cv rfl rfl rfl rfl (by decide) ⟨⟨rfl, rfl⟩, by decide, rfl⟩ (Nat.le_of_ble_eq_true rfl) (Nat.le_of_ble_eq_true rfl) ?_
                refine q_aload_n rfl rfl ?_
                refine q_iload_n rfl rfl ?_
                refine v_cv rfl rfl rfl rfl (by decide) ⟨⟨rfl, rfl⟩, by decide, rfl⟩ (Nat.le_of_ble_eq_true rfl) (Nat.le_of_ble_eq_true rfl) ?_
                refine q_aload_n rfl rfl ?_
                refine v_cv rfl rfl rfl rfl (by decide) ⟨⟨rfl, rfl⟩, by decide, rfl⟩ (Nat.le_of_ble_eq_true rfl) (Nat.le_of_ble_eq_true rfl) ?_
                refine q_aload_n rfl rfl ?_
                have kn_309 : Hid (c_285 41 5 = (-1)) := (hF_287 41 5 (fun h => absurd h.2 (ni rfl))).trans hro_hRt.2.1
                have kn_310 : Hid (c_290 41 5 = (-1)) := (hF_292 41 5 (fun h => absurd h.2 (ni rfl))).trans (hid kn_309)
                have kn_311 : Hid (c_300 41 5 = (-1)) := (hF_302 41 5 (fun h => absurd h.2 (ni rfl))).trans (hid kn_310)
                have kn_312 : Hid (c_305 41 5 = (-1)) := (hF_307 41 5 (fun h => absurd h.2 (ni rfl))).trans (hid kn_311)
                refine v_gi (z := 5) (v := (-1)) rfl rfl rfl (by decide) rfl rfl (hid kn_312) ?_
                refine q_iconst rfl ?_
                refine v_ic_ne_f (t := 12) rfl (by decide) (by decide) ?_
                refine q_iconst rfl ?_
                refine q_goto (t := 13) rfl (by decide) ?_
                refine v_zret rfl rfl (by decide) ?_
                refine bk_inl ?_
                refine v_if_eq_f (t := 25) rfl (by decide) (by decide) ?_
                refine q_aload_n rfl rfl ?_
                have kn_313 : Hid (c_285 41 7 = o0) := (hF_287 41 7 (fun h => absurd h.2 (ni rfl))).trans (hr_o0)
                have kn_314 : Hid (c_290 41 7 = o0) := (hF_292 41 7 (fun h => absurd h.2 (ni rfl))).trans (hid kn_313)
                have kn_315 : Hid (c_300 41 7 = o0) := (hF_302 41 7 (fun h => absurd h.2 (ni rfl))).trans (hid kn_314)
                have kn_316 : Hid (c_305 41 7 = o0) := (hF_307 41 7 (fun h => absurd h.2 (ni rfl))).trans (hid kn_315)
                refine v_gi (z := 7) (v := o0) rfl rfl rfl (by decide) rfl rfl (hid kn_316) ?_
                refine v_bip rfl (by decide) ?_
                refine v_ic_ne_t (t := 25) rfl (by decide) ⟨by first | (clear ha2 hq0 hq1 hq3 hq4 hq5 hq8 h_1 h_2 h_3 h_4 h_5 h_6 h_7 h_8 h_9 h_10 h_11 h_46 h_65 h_66 h_75 h_76 h_81 h_82 h_87 h_88 h_93 h_94 h_99 h_266 h_267 h_268 h_269 h_270 h_271 h_272 h_273 h_274 h_275 h_276 h_277 h_278 h_279 h_280 h_281 h_282 h_284 h_297 h_299 hq6 hq7 h_12 h_21 h_37 h_283 h_295; omega) | omega, ⟨(Int.le_trans (by decide) (rg_eq hr_o0 h_8).1), (Int.le_trans (rg_eq hr_o0 h_8).2 (by decide))⟩, by decide, by decide⟩ ?_
                refine q_aload_n rfl rfl ?_
                refine v_cv rfl rfl rfl rfl (by decide) ⟨⟨rfl, rfl⟩, by decide, rfl⟩ (Nat.le_of_ble_eq_true rfl) (Nat.le_of_ble_eq_true rfl) ?_
                refine q_aload_n rfl rfl ?_
                refine v_gi (z := 5) (v := (-1)) rfl rfl rfl (by decide) rfl rfl (hid kn_312) ?_
                refine q_iconst rfl ?_
                refine v_ic_ne_f (t := 12) rfl (by decide) (by decide) ?_
                refine q_iconst rfl ?_
                refine q_goto (t := 13) rfl (by decide) ?_
                refine v_zret rfl rfl (by decide) ?_
                refine bk_inl ?_
                refine v_if_eq_f (t := 42) rfl (by decide) (by decide) ?_
                refine q_aload_n rfl rfl ?_
                refine q_dup rfl rfl ?_
                refine v_gi (z := 4) (v := (nx F e1 p0)) rfl rfl rfl (by decide) rfl rfl (hz_308) ?_
                refine q_iload_n rfl rfl ?_
                refine v_iadd (v := (nx F e1 p0) + 4) rfl rfl ?_
                refine v_pi (z := 4) rfl rfl rfl (by decide) rfl rfl rfl (by decide) ?_
                refine q_aload_n rfl rfl ?_
                refine q_dup rfl rfl ?_
                refine v_gi (z := 7) (v := o0) rfl rfl rfl (by decide) rfl rfl ((up_n (by decide)).trans (hid kn_316)) ?_
                refine q_iconst rfl ?_
                refine v_iadd (v := o0 + 1) rfl rfl ?_
                refine v_pi (z := 7) rfl rfl rfl (by decide) rfl rfl rfl (by decide) ?_
                refine q_vret rfl rfl ?_
                refine bk_inl ?_
                refine q_aload_n rfl rfl ?_
                refine v_bip rfl (by decide) ?_
                have hI_317 := iw_41_4 (v := (nx F e1 p0) + 4) hI_306 ⟨by first | exact rgp_l (rg_be h_10 ((rg_eq hg_p0 h_5).1) ((rg_eq hg_e1 h_1).2)).1 (by decide) | omega, by first | exact rgp_h (rg_be h_10 ((rg_eq hg_p0 h_5).1) ((rg_eq hg_e1 h_1).2)).2 (by decide) | omega⟩
                have hI_318 := iw_41_7 (v := o0 + 1) hI_317 ⟨by first | exact rgp_l (rg_eq hr_o0 h_8).1 (by decide) | omega, by first | (clear ha2 hq0 hq1 hq3 hq4 hq5 hq8 h_1 h_2 h_3 h_4 h_5 h_6 h_7 h_8 h_9 h_10 h_11 h_46 h_65 h_66 h_75 h_76 h_81 h_82 h_87 h_88 h_93 h_94 h_99 h_266 h_267 h_268 h_269 h_270 h_271 h_272 h_273 h_274 h_275 h_276 h_277 h_278 h_279 h_280 h_281 h_282 h_284 h_297 h_299 hq6 hq7 h_12 h_21 h_37 h_283 h_295; omega) | omega⟩
                have kn_319 : Hid (c_62 1 1 = e1) := (hF_64 1 1 (fun q => q.elim (fun h => absurd h.2 (ni rfl)) (fun q => q.elim (fun h => absurd h.2 (ni rfl)) (fun h => absurd h.2 (ni rfl))))).trans (hid kn_39)
                have kn_320 : Hid (c_305 41 3 = e1) := (hF_307 41 3 (fun h => absurd h.2 (ni rfl))).trans (hid kn_304)
                have h_321 : c_62 1 4 = 0 := (hz_68)
                have h_322 : c_62 1 2 = (ln F e1 (nx F e1 p0)) := (hz_67)
                have h_323 : c_62 1 5 = g0 := (hz_69)
                have h_324 : (up (up c_305 41 4 ((nx F e1 p0) + 4)) 41 7 (o0 + 1)) 41 5 = (-1) := ((up_n (by decide)).trans ((up_n (by decide)).trans (hid kn_312)))
                have h_325 : (up (up c_305 41 4 ((nx F e1 p0) + 4)) 41 7 (o0 + 1)) 41 4 = (nx F e1 p0) + 4 := ((up_n (by decide)).trans (up_e rfl))
                have kn_326 : Hid (c_285 41 6 = c 41 6) := hF_287 41 6 (fun h => absurd h.2 (ni rfl))
                have kn_327 : Hid (c_290 41 6 = c 41 6) := (hF_292 41 6 (fun h => absurd h.2 (ni rfl))).trans (hid kn_326)
                have kn_328 : Hid (c_300 41 6 = c 41 6) := (hF_302 41 6 (fun h => absurd h.2 (ni rfl))).trans (hid kn_327)
                have kn_329 : Hid (c_305 41 6 = c 41 6) := (hF_307 41 6 (fun h => absurd h.2 (ni rfl))).trans (hid kn_328)
                have h_330 : (up (up c_305 41 4 ((nx F e1 p0) + 4)) 41 7 (o0 + 1)) 41 6 = c 41 6 := ((up_n (by decide)).trans ((up_n (by decide)).trans (hid kn_329)))
                refine v_cv rfl rfl rfl rfl (by decide) ⟨⟨rfl, rfl⟩, by decide, rfl⟩ (Nat.le_of_ble_eq_true rfl) (Nat.le_of_ble_eq_true rfl) (L_11_3 (m := c_62) (e1 := e1) (a9 := (ln F e1 (nx F e1 p0))) (f0 := 0) (F := F) (H := H) hI_318 hI_63 hI_72 ((hid kn_319)) (((up_n (by decide)).trans ((up_n (by decide)).trans (hid kn_320)))) ((hz_67)) ((hz_68)) (fun j => ((hF_64 2 j (fun q => q.elim (fun h => absurd h.1 (nn rfl)) (fun q => q.elim (fun h => absurd h.1 (nn rfl)) (fun h => absurd h.1 (nn rfl))))).trans ((hF_36 2 j (fun h => absurd h.1 (nn rfl))).trans ((hF_26 2 j (fun h => absurd h.1 (nn rfl))).trans (hF_20 2 j (fun h => absurd h.1 (nn rfl)))))).trans (hF j)) (fun j => ((up_c (nn rfl)).trans ((up_c (nn rfl)).trans ((hF_307 43 j (fun h => absurd h.1 (nn rfl))).trans ((hF_302 43 j (fun h => absurd h.1 (nn rfl))).trans ((hF_292 43 j (fun h => absurd h.1 (nn rfl))).trans (hF_287 43 j (fun h => absurd h.1 (nn rfl)))))))).trans (hH j)) hU (rt_i1 ⟨by first | (clear ha2 hq0 hq1 hq2 hq3 hq4 hq5 hq8 h_1 h_2 h_3 h_4 h_5 h_6 h_7 h_8 h_9 h_10 h_11 h_46 h_65 h_66 h_70 h_75 h_76 h_81 h_82 h_87 h_88 h_93 h_94 h_99 h_266 h_267 h_268 h_269 h_270 h_271 h_272 h_273 h_274 h_275 h_276 h_277 h_278 h_279 h_280 h_281 h_282 h_284 h_297 h_299 hq6 hq7 h_12 h_21 h_37 h_283 h_295; omega) | omega, by first | (clear ha2 hq0 hq1 hq2 hq3 hq4 hq5 hq8 h_1 h_2 h_3 h_4 h_5 h_6 h_7 h_8 h_9 h_10 h_11 h_46 h_65 h_66 h_70 h_75 h_76 h_81 h_82 h_87 h_88 h_93 h_94 h_99 h_266 h_267 h_268 h_269 h_270 h_271 h_272 h_273 h_274 h_275 h_276 h_277 h_278 h_279 h_280 h_281 h_282 h_284 h_297 h_299 hq6 hq7 h_12 h_21 h_37 h_283 h_295; omega) | omega, by first | (clear ha2 hq0 hq1 hq2 hq3 hq4 hq5 hq8 h_1 h_2 h_3 h_4 h_5 h_6 h_7 h_8 h_9 h_10 h_11 h_46 h_65 h_66 h_70 h_75 h_76 h_81 h_82 h_87 h_88 h_93 h_94 h_99 h_266 h_267 h_268 h_269 h_270 h_271 h_272 h_273 h_274 h_275 h_276 h_277 h_278 h_279 h_280 h_281 h_282 h_284 h_297 hq6 hq7 h_12 h_21 h_37 h_283 h_295; omega) | omega, by first | (clear ha2 hq0 hq2 hq3 hq4 hq5 hq8 h_1 h_2 h_3 h_4 h_5 h_6 h_7 h_8 h_9 h_10 h_11 h_46 h_65 h_66 h_70 h_75 h_76 h_81 h_82 h_87 h_88 h_93 h_94 h_99 h_266 h_267 h_268 h_269 h_270 h_271 h_272 h_273 h_274 h_275 h_276 h_277 h_278 h_279 h_280 h_281 h_282 h_284 h_297 h_299 hq6 hq7 h_12 h_21 h_37 h_283 h_295; omega) | omega⟩) hG_74 (fun c_331 hI_332 hF_333 hR_335 h_336 h_337 => ?_))
                refine bk_inl ?_
                have h_338 := ir_1_2 hI_72
                refine q_aload_n rfl rfl ?_
                have h_339 := ir_41_5 hI_332
                have h_340 := ir_1_5 hI_72
                have h_341 := ir_41_4 hI_332
                have h_342 := ir_41_6 hI_332
                have h_343 := rt_ok hR_335 (by omega)
                have hro_hR_335 := rt_ok hR_335 (by omega)
                have kn_344 : Hid (c_71 1 1 = e1) := (hF_73 1 1 (fun q => q.elim (fun h => absurd h.2 (ni rfl)) (fun q => q.elim (fun h => absurd h.2 (ni rfl)) (fun h => absurd h.2 (ni rfl))))).trans (hid kn_319)
                have kn_345 : Hid (c_331 41 3 = e1) := (hF_333 41 3 (fun q => q.elim (fun h => absurd h.2 (ni rfl)) (fun q => q.elim (fun h => absurd h.2 (ni rfl)) (fun h => absurd h.2 (ni rfl))))).trans ((up_n (by decide)).trans ((up_n (by decide)).trans (hid kn_320)))
                have kn_346 : Hid (c_18 (A + 7) 5 = n0) := (hF_20 (A + 7) 5 (fun h => absurd h.1 (np hA rfl rfl))).trans (hg_n0)
                have kn_347 : Hid (c_24 (A + 7) 5 = n0) := (hF_26 (A + 7) 5 (fun h => absurd h.1 (np hA rfl rfl))).trans (hid kn_346)
                have kn_348 : Hid (c_34 (A + 7) 5 = n0) := (hF_36 (A + 7) 5 (fun h => absurd h.1 (np hA rfl rfl))).trans (hid kn_347)
                have kn_349 : Hid (c_62 (A + 7) 5 = n0) := (hF_64 (A + 7) 5 (fun q => q.elim (fun h => absurd h.1 (np hA rfl rfl)) (fun q => q.elim (fun h => absurd h.1 (np hA rfl rfl)) (fun h => absurd h.1 (np hA rfl rfl))))).trans (hid kn_348)
                have kn_350 : Hid (c_71 (A + 7) 5 = n0) := (hF_73 (A + 7) 5 (fun q => q.elim (fun h => absurd h.1 (np hA rfl rfl)) (fun q => q.elim (fun h => absurd h.1 (np hA rfl rfl)) (fun h => absurd h.1 (np hA rfl rfl))))).trans (hid kn_349)
                have kn_351 : Hid (c_285 41 29 = n0) := (hF_287 41 29 (fun h => absurd h.2 (ni rfl))).trans (hr_n0)
                have kn_352 : Hid (c_290 41 29 = n0) := (hF_292 41 29 (fun h => absurd h.2 (ni rfl))).trans (hid kn_351)
                have kn_353 : Hid (c_300 41 29 = n0) := (hF_302 41 29 (fun h => absurd h.2 (ni rfl))).trans (hid kn_352)
                have kn_354 : Hid (c_305 41 29 = n0) := (hF_307 41 29 (fun h => absurd h.2 (ni rfl))).trans (hid kn_353)
                have kn_355 : Hid (c_331 41 29 = n0) := (hF_333 41 29 (fun q => q.elim (fun h => absurd h.2 (ni rfl)) (fun q => q.elim (fun h => absurd h.2 (ni rfl)) (fun h => absurd h.2 (ni rfl))))).trans ((up_n (by decide)).trans ((up_n (by decide)).trans (hid kn_354)))
                have kn_356 : Hid (c_331 41 7 = o0 + 1) := (hF_333 41 7 (fun q => q.elim (fun h => absurd h.2 (ni rfl)) (fun q => q.elim (fun h => absurd h.2 (ni rfl)) (fun h => absurd h.2 (ni rfl))))).trans (up_e rfl)
                have hA_357 : Ce n0 (c_71 (A + 9)) (c_331 50) (c_331 51) := ce_fr hr0 (fun j => (hF_73 (A + 9) j (fun q => q.elim (fun h => absurd h.1 (np hA rfl rfl)) (fun q => q.elim (fun h => absurd h.1 (np hA rfl rfl)) (fun h => absurd h.1 (np hA rfl rfl))))).trans ((hF_64 (A + 9) j (fun q => q.elim (fun h => absurd h.1 (np hA rfl rfl)) (fun q => q.elim (fun h => absurd h.1 (np hA rfl rfl)) (fun h => absurd h.1 (np hA rfl rfl))))).trans ((hF_36 (A + 9) j (fun h => absurd h.1 (np hA rfl rfl))).trans ((hF_26 (A + 9) j (fun h => absurd h.1 (np hA rfl rfl))).trans (hF_20 (A + 9) j (fun h => absurd h.1 (np hA rfl rfl))))))) (fun j => (hF_333 50 j (fun q => q.elim (fun h => absurd h.1 (nn rfl)) (fun q => q.elim (fun h => absurd h.1 (nn rfl)) (fun h => absurd h.1 (nn rfl))))).trans ((up_c (nn rfl)).trans ((up_c (nn rfl)).trans ((hF_307 50 j (fun h => absurd h.1 (nn rfl))).trans ((hF_302 50 j (fun h => absurd h.1 (nn rfl))).trans ((hF_292 50 j (fun h => absurd h.1 (nn rfl))).trans (hF_287 50 j (fun h => absurd h.1 (nn rfl))))))))) (fun j => (hF_333 51 j (fun q => q.elim (fun h => absurd h.1 (nn rfl)) (fun q => q.elim (fun h => absurd h.1 (nn rfl)) (fun h => absurd h.1 (nn rfl))))).trans ((up_c (nn rfl)).trans ((up_c (nn rfl)).trans ((hF_307 51 j (fun h => absurd h.1 (nn rfl))).trans ((hF_302 51 j (fun h => absurd h.1 (nn rfl))).trans ((hF_292 51 j (fun h => absurd h.1 (nn rfl))).trans (hF_287 51 j (fun h => absurd h.1 (nn rfl)))))))))
                refine v_cv rfl rfl rfl rfl (by decide) ⟨⟨rfl, rfl⟩, by decide, rfl⟩ (Nat.le_of_ble_eq_true rfl) (Nat.le_of_ble_eq_true rfl) (H13 (m := c_71) (e1 := e1) (f0 := c_71 1 4) (g0 := c_71 1 5) (p0 := c_71 1 2) (n0 := n0) (o0 := o0 + 1) (by omega) (by omega) hI_332 hI_72 hI_78 (show 0 ≤ a2 + 1 ∧ a2 + 1 ≤ 6 from ⟨by first | exact rgp_l ha2.1 (by decide) | omega, by first | (clear ha2 hq0 hq1 hq2 hq3 hq4 hq5 hq8 h_1 h_2 h_3 h_4 h_5 h_6 h_7 h_8 h_9 h_10 h_11 h_46 h_65 h_66 h_75 h_76 h_81 h_82 h_87 h_88 h_93 h_94 h_99 h_266 h_267 h_268 h_269 h_270 h_271 h_272 h_273 h_274 h_275 h_276 h_277 h_278 h_279 h_280 h_281 h_282 h_284 h_297 h_299 h_338 h_339 h_340 h_341 h_342 h_343 hq6 hq7 h_12 h_21 h_37 h_283 h_295 h_336 h_337; omega) | omega⟩) (by first | (clear ha2 hq0 hq1 hq2 hq3 hq4 hq5 hq8 h_1 h_2 h_3 h_4 h_5 h_6 h_7 h_8 h_9 h_10 h_11 h_46 h_65 h_66 h_70 h_81 h_82 h_87 h_88 h_93 h_94 h_99 h_266 h_267 h_268 h_269 h_270 h_271 h_272 h_273 h_274 h_275 h_276 h_277 h_278 h_279 h_280 h_281 h_282 h_284 h_297 h_299 h_338 h_339 h_340 h_341 h_342 h_343 hq6 hq7 h_12 h_21 h_37 h_283 h_295 h_336 h_337; omega) | omega) (by first | (clear ha2 hq0 hq1 hq2 hq3 hq4 hq5 hq8 h_1 h_2 h_3 h_4 h_5 h_6 h_7 h_8 h_9 h_10 h_11 h_46 h_65 h_66 h_70 h_75 h_76 h_81 h_82 h_87 h_88 h_93 h_94 h_99 h_266 h_267 h_268 h_269 h_270 h_271 h_272 h_273 h_274 h_275 h_276 h_277 h_278 h_279 h_280 h_281 h_282 h_284 h_297 h_299 h_338 h_339 h_341 h_342 hq6 hq7 h_12 h_21 h_37 h_283 h_295 h_336 h_337; omega) | omega) (by first | (clear ha2 hq0 hq1 hq3 hq4 hq5 hq8 h_1 h_2 h_3 h_4 h_5 h_6 h_7 h_8 h_9 h_10 h_11 h_46 h_65 h_66 h_70 h_75 h_76 h_81 h_82 h_87 h_88 h_93 h_94 h_99 h_266 h_267 h_268 h_269 h_270 h_271 h_272 h_273 h_274 h_275 h_276 h_277 h_278 h_279 h_280 h_281 h_282 h_284 h_297 h_299 h_338 h_339 h_340 h_341 h_342 h_343 hq6 hq7 h_12 h_21 h_37 h_283 h_295 h_336 h_337; omega) | omega) (by first | (clear ha2 hq0 hq1 hq2 hq8 h_3 h_4 h_8 h_9 h_11 h_65 h_66 h_70 h_81 h_82 h_87 h_88 h_93 h_94 h_99 h_266 h_267 h_268 h_269 h_270 h_271 h_272 h_273 h_274 h_275 h_276 h_277 h_278 h_279 h_280 h_281 h_282 h_284 h_297 h_342 h_295; omega) | omega) (by first | (clear ha2 hq0 hq1 hq2 hq3 hq8 h_3 h_4 h_5 h_6 h_7 h_8 h_9 h_11 h_65 h_66 h_70 h_75 h_76 h_81 h_82 h_87 h_88 h_93 h_94 h_99 h_266 h_267 h_268 h_269 h_270 h_271 h_272 h_273 h_274 h_275 h_276 h_277 h_278 h_279 h_280 h_281 h_282 h_284 h_297 h_299 h_339 h_340 h_341 h_342 h_295 h_337; omega) | omega) (by first | (clear ha2 hq0 hq1 hq2 hq3 hq4 hq8 h_1 h_2 h_3 h_4 h_5 h_6 h_7 h_8 h_9 h_10 h_11 h_46 h_65 h_66 h_70 h_75 h_76 h_81 h_82 h_87 h_88 h_93 h_94 h_99 h_266 h_267 h_268 h_269 h_270 h_271 h_272 h_273 h_274 h_275 h_276 h_277 h_278 h_279 h_280 h_281 h_282 h_284 h_297 h_299 h_338 h_339 h_340 h_341 h_342 h_343 hq6 hq7 h_12 h_21 h_37 h_283 h_295 h_336 h_337; omega) | omega) ((hid kn_344)) ((hid kn_345)) (rfl) (rfl) (rfl) ((hid kn_350)) ((hid kn_355)) ((hid kn_356)) (fun j => ((hF_73 2 j (fun q => q.elim (fun h => absurd h.1 (nn rfl)) (fun q => q.elim (fun h => absurd h.1 (nn rfl)) (fun h => absurd h.1 (nn rfl))))).trans ((hF_64 2 j (fun q => q.elim (fun h => absurd h.1 (nn rfl)) (fun q => q.elim (fun h => absurd h.1 (nn rfl)) (fun h => absurd h.1 (nn rfl))))).trans ((hF_36 2 j (fun h => absurd h.1 (nn rfl))).trans ((hF_26 2 j (fun h => absurd h.1 (nn rfl))).trans (hF_20 2 j (fun h => absurd h.1 (nn rfl))))))).trans (hF j)) (fun j => ((hF_333 43 j (fun q => q.elim (fun h => absurd h.1 (nn rfl)) (fun q => q.elim (fun h => absurd h.1 (nn rfl)) (fun h => absurd h.1 (nn rfl))))).trans ((up_c (nn rfl)).trans ((up_c (nn rfl)).trans ((hF_307 43 j (fun h => absurd h.1 (nn rfl))).trans ((hF_302 43 j (fun h => absurd h.1 (nn rfl))).trans ((hF_292 43 j (fun h => absurd h.1 (nn rfl))).trans (hF_287 43 j (fun h => absurd h.1 (nn rfl))))))))).trans (hH j)) hU hR_335 (ce_le hA_357 (by omega)) hG_80 (fun c_358 hI_359 hF_360 hR_362 h_363 h_364 hA_365 => ?_))
                refine bk_inl ?_
                have h_366 := ir_41_29 hI_359
                have h_367 := ir_p7_5 hI_78 hA
                have h_368 := ir_1_2 hI_78
                have h_369 := ir_41_7 hI_359
                refine q_aload_n rfl rfl ?_
                refine v_bip rfl (by decide) ?_
                have h_370 := ir_41_5 hI_359
                have h_371 := ir_1_5 hI_78
                have h_372 := ir_41_4 hI_359
                have h_373 := ir_41_6 hI_359
                have h_374 := rt_ok hR_362 (by omega)
                have hro_hR_362 := rt_ok hR_362 (by omega)
                have kn_375 : Hid (c_77 1 1 = e1) := (hF_79 1 1 (fun q => q.elim (fun h => absurd h.2 (ni rfl)) (fun q => q.elim (fun h => absurd h.2 (ni rfl)) (fun q => q.elim (fun h => absurd h.2 (ni rfl)) (fun q => q.elim (fun h => absurd h.1 (pn hA rfl rfl)) (fun h => absurd h (pn hA rfl rfl))))))).trans (hid kn_344)
                have kn_376 : Hid (c_358 41 3 = e1) := (hF_360 41 3 (fun q => q.elim (fun h => absurd h.2 (ni rfl)) (fun q => q.elim (fun h => absurd h.2 (ni rfl)) (fun q => q.elim (fun h => absurd h.2 (ni rfl)) (fun q => q.elim (fun h => absurd h.2 (ni rfl)) (fun q => q.elim (fun h => absurd h.2 (ni rfl)) (fun q => q.elim (fun h => absurd h (nn rfl)) (fun h => absurd h (nn rfl))))))))).trans (hid kn_345)
                refine v_cv rfl rfl rfl rfl (by decide) ⟨⟨rfl, rfl⟩, by decide, rfl⟩ (Nat.le_of_ble_eq_true rfl) (Nat.le_of_ble_eq_true rfl) (L_11_4 (m := c_77) (e1 := e1) (a9 := c_77 1 2) (f0 := c_77 1 4) (F := F) (H := H) hI_359 hI_78 hI_84 ((hid kn_375)) ((hid kn_376)) (rfl) (rfl) (fun j => ((hF_79 2 j (fun q => q.elim (fun h => absurd h.1 (nn rfl)) (fun q => q.elim (fun h => absurd h.1 (nn rfl)) (fun q => q.elim (fun h => absurd h.1 (nn rfl)) (fun q => q.elim (fun h => absurd h.1 (pn hA rfl rfl)) (fun h => absurd h (pn hA rfl rfl))))))).trans ((hF_73 2 j (fun q => q.elim (fun h => absurd h.1 (nn rfl)) (fun q => q.elim (fun h => absurd h.1 (nn rfl)) (fun h => absurd h.1 (nn rfl))))).trans ((hF_64 2 j (fun q => q.elim (fun h => absurd h.1 (nn rfl)) (fun q => q.elim (fun h => absurd h.1 (nn rfl)) (fun h => absurd h.1 (nn rfl))))).trans ((hF_36 2 j (fun h => absurd h.1 (nn rfl))).trans ((hF_26 2 j (fun h => absurd h.1 (nn rfl))).trans (hF_20 2 j (fun h => absurd h.1 (nn rfl)))))))).trans (hF j)) (fun j => ((hF_360 43 j (fun q => q.elim (fun h => absurd h.1 (nn rfl)) (fun q => q.elim (fun h => absurd h.1 (nn rfl)) (fun q => q.elim (fun h => absurd h.1 (nn rfl)) (fun q => q.elim (fun h => absurd h.1 (nn rfl)) (fun q => q.elim (fun h => absurd h.1 (nn rfl)) (fun q => q.elim (fun h => absurd h (nn rfl)) (fun h => absurd h (nn rfl))))))))).trans ((hF_333 43 j (fun q => q.elim (fun h => absurd h.1 (nn rfl)) (fun q => q.elim (fun h => absurd h.1 (nn rfl)) (fun h => absurd h.1 (nn rfl))))).trans ((up_c (nn rfl)).trans ((up_c (nn rfl)).trans ((hF_307 43 j (fun h => absurd h.1 (nn rfl))).trans ((hF_302 43 j (fun h => absurd h.1 (nn rfl))).trans ((hF_292 43 j (fun h => absurd h.1 (nn rfl))).trans (hF_287 43 j (fun h => absurd h.1 (nn rfl)))))))))).trans (hH j)) hU hR_362 hG_86 (fun c_377 hI_378 hF_379 hR_381 h_382 h_383 => ?_))
                refine bk_inl ?_
                have h_384 := ir_1_2 hI_84
                refine q_aload_n rfl rfl ?_
                have h_385 := ir_41_5 hI_378
                have h_386 := ir_1_5 hI_84
                have h_387 := ir_41_4 hI_378
                have h_388 := ir_41_6 hI_378
                have h_389 := rt_ok hR_381 (by omega)
                have hro_hR_381 := rt_ok hR_381 (by omega)
                have kn_390 : Hid (c_83 1 1 = e1) := (hF_85 1 1 (fun q => q.elim (fun h => absurd h.2 (ni rfl)) (fun q => q.elim (fun h => absurd h.2 (ni rfl)) (fun h => absurd h.2 (ni rfl))))).trans (hid kn_375)
                have kn_391 : Hid (c_377 41 3 = e1) := (hF_379 41 3 (fun q => q.elim (fun h => absurd h.2 (ni rfl)) (fun q => q.elim (fun h => absurd h.2 (ni rfl)) (fun h => absurd h.2 (ni rfl))))).trans (hid kn_376)
                have kn_392 : Hid (c_83 (A + 7) 5 = c_77 (A + 7) 5) := hF_85 (A + 7) 5 (fun q => q.elim (fun h => absurd h.1 (np hA rfl rfl)) (fun q => q.elim (fun h => absurd h.1 (np hA rfl rfl)) (fun h => absurd h.1 (np hA rfl rfl))))
                have kn_393 : Hid (c_377 41 29 = c_358 41 29) := hF_379 41 29 (fun q => q.elim (fun h => absurd h.2 (ni rfl)) (fun q => q.elim (fun h => absurd h.2 (ni rfl)) (fun h => absurd h.2 (ni rfl))))
                have kn_394 : Hid (c_377 41 7 = c_358 41 7) := hF_379 41 7 (fun q => q.elim (fun h => absurd h.2 (ni rfl)) (fun q => q.elim (fun h => absurd h.2 (ni rfl)) (fun h => absurd h.2 (ni rfl))))
                have hA_395 : Ce (c_358 41 29) (c_83 (A + 9)) (c_377 50) (c_377 51) := ce_fr (hA_365 (by omega)) (fun j => hF_85 (A + 9) j (fun q => q.elim (fun h => absurd h.1 (np hA rfl rfl)) (fun q => q.elim (fun h => absurd h.1 (np hA rfl rfl)) (fun h => absurd h.1 (np hA rfl rfl))))) (fun j => hF_379 50 j (fun q => q.elim (fun h => absurd h.1 (nn rfl)) (fun q => q.elim (fun h => absurd h.1 (nn rfl)) (fun h => absurd h.1 (nn rfl))))) (fun j => hF_379 51 j (fun q => q.elim (fun h => absurd h.1 (nn rfl)) (fun q => q.elim (fun h => absurd h.1 (nn rfl)) (fun h => absurd h.1 (nn rfl)))))
                have hA_396 : Ce (c_77 (A + 7) 5) (c_83 (A + 9)) (c_377 50) (c_377 51) := ce_le hA_395 (by omega)
                refine v_cv rfl rfl rfl rfl (by decide) ⟨⟨rfl, rfl⟩, by decide, rfl⟩ (Nat.le_of_ble_eq_true rfl) (Nat.le_of_ble_eq_true rfl) (H13 (m := c_83) (e1 := e1) (f0 := c_83 1 4) (g0 := c_83 1 5) (p0 := c_83 1 2) (n0 := c_77 (A + 7) 5) (o0 := c_358 41 7) (by omega) (by omega) hI_378 hI_84 hI_90 (show 0 ≤ a2 + 1 ∧ a2 + 1 ≤ 6 from ⟨by first | exact rgp_l ha2.1 (by decide) | omega, by first | (clear ha2 hq0 hq1 hq2 hq3 hq4 hq5 hq8 h_1 h_2 h_3 h_4 h_5 h_6 h_7 h_8 h_9 h_10 h_11 h_46 h_65 h_66 h_75 h_76 h_81 h_82 h_87 h_88 h_93 h_94 h_99 h_266 h_267 h_268 h_269 h_270 h_271 h_272 h_273 h_274 h_275 h_276 h_277 h_278 h_279 h_280 h_281 h_282 h_284 h_297 h_299 h_338 h_339 h_340 h_341 h_342 h_343 h_366 h_367 h_368 h_369 h_364 h_370 h_371 h_372 h_373 h_374 h_384 h_385 h_386 h_387 h_388 h_389 hq6 hq7 h_12 h_21 h_37 h_283 h_295 h_336 h_337 h_363 h_382 h_383; omega) | omega⟩) (by first | (clear ha2 hq0 hq1 hq2 hq3 hq4 hq5 hq8 h_1 h_2 h_3 h_4 h_5 h_6 h_7 h_8 h_9 h_10 h_11 h_46 h_65 h_66 h_70 h_75 h_76 h_81 h_82 h_93 h_94 h_99 h_266 h_267 h_268 h_269 h_270 h_271 h_272 h_273 h_274 h_275 h_276 h_277 h_278 h_279 h_280 h_281 h_282 h_284 h_297 h_299 h_338 h_339 h_340 h_341 h_342 h_343 h_366 h_367 h_368 h_369 h_364 h_370 h_371 h_372 h_373 h_374 h_384 h_385 h_386 h_387 h_388 h_389 hq6 hq7 h_12 h_21 h_37 h_283 h_295 h_336 h_337 h_363 h_382 h_383; omega) | omega) (by first | (clear ha2 hq0 hq1 hq2 hq3 hq4 hq5 hq8 h_1 h_2 h_3 h_4 h_5 h_6 h_7 h_8 h_9 h_10 h_11 h_46 h_65 h_66 h_70 h_75 h_76 h_81 h_82 h_87 h_88 h_93 h_94 h_99 h_266 h_267 h_268 h_269 h_270 h_271 h_272 h_273 h_274 h_275 h_276 h_277 h_278 h_279 h_280 h_281 h_282 h_284 h_297 h_299 h_338 h_339 h_340 h_341 h_342 h_343 h_366 h_367 h_368 h_369 h_364 h_370 h_371 h_372 h_373 h_374 h_384 h_385 h_387 h_388 hq6 hq7 h_12 h_21 h_37 h_283 h_295 h_336 h_337 h_363 h_382 h_383; omega) | omega) (by first | (clear ha2 hq0 hq1 hq2 hq3 hq4 hq5 hq8 h_1 h_2 h_3 h_4 h_5 h_6 h_7 h_8 h_9 h_10 h_11 h_46 h_65 h_66 h_70 h_75 h_76 h_81 h_82 h_87 h_88 h_93 h_94 h_99 h_266 h_267 h_268 h_269 h_270 h_271 h_272 h_273 h_274 h_275 h_276 h_277 h_278 h_279 h_280 h_281 h_282 h_284 h_297 h_299 h_338 h_339 h_340 h_341 h_342 h_343 h_366 h_367 h_368 h_369 h_370 h_371 h_372 h_373 h_374 h_384 h_385 h_386 h_387 h_388 h_389 hq6 hq7 h_12 h_21 h_37 h_283 h_295 h_336 h_337 h_363 h_382 h_383; omega) | omega) (by first | (clear ha2 hq0 hq1 hq2 hq8 h_3 h_4 h_5 h_8 h_9 h_11 h_65 h_66 h_70 h_75 h_76 h_93 h_94 h_99 h_266 h_267 h_268 h_269 h_270 h_271 h_272 h_273 h_274 h_275 h_276 h_277 h_278 h_279 h_280 h_281 h_282 h_284 h_297 h_299 h_339 h_340 h_341 h_342 h_369 h_364 h_370 h_371 h_372 h_373 h_388 h_295 h_337; omega) | omega) (by first | (clear ha2 hq0 hq1 hq2 hq3 hq8 h_3 h_4 h_5 h_6 h_7 h_8 h_9 h_11 h_65 h_66 h_70 h_75 h_76 h_81 h_82 h_87 h_88 h_93 h_94 h_99 h_266 h_267 h_268 h_269 h_270 h_271 h_272 h_273 h_274 h_275 h_276 h_277 h_278 h_279 h_280 h_281 h_282 h_284 h_297 h_299 h_338 h_339 h_340 h_341 h_342 h_343 h_366 h_367 h_368 h_369 h_364 h_370 h_371 h_372 h_373 h_374 h_385 h_386 h_387 h_388 h_295 h_337 h_383; omega) | omega) (by first | (clear ha2 hq0 hq1 hq2 hq3 hq4 hq8 h_1 h_2 h_3 h_4 h_5 h_6 h_7 h_8 h_9 h_10 h_11 h_46 h_65 h_66 h_70 h_75 h_76 h_81 h_82 h_87 h_88 h_93 h_94 h_99 h_266 h_267 h_268 h_269 h_270 h_271 h_272 h_273 h_274 h_275 h_276 h_277 h_278 h_279 h_280 h_281 h_282 h_284 h_297 h_299 h_338 h_339 h_340 h_341 h_342 h_343 h_366 h_367 h_368 h_369 h_364 h_370 h_371 h_372 h_373 h_374 h_384 h_385 h_386 h_387 h_388 h_389 hq6 hq7 h_12 h_21 h_37 h_283 h_295 h_336 h_337 h_363 h_382 h_383; omega) | omega) ((hid kn_390)) ((hid kn_391)) (rfl) (rfl) (rfl) ((hid kn_392)) (((show _ = c_358 41 29 from (hid kn_393)).trans (by omega))) ((hid kn_394)) (fun j => ((hF_85 2 j (fun q => q.elim (fun h => absurd h.1 (nn rfl)) (fun q => q.elim (fun h => absurd h.1 (nn rfl)) (fun h => absurd h.1 (nn rfl))))).trans ((hF_79 2 j (fun q => q.elim (fun h => absurd h.1 (nn rfl)) (fun q => q.elim (fun h => absurd h.1 (nn rfl)) (fun q => q.elim (fun h => absurd h.1 (nn rfl)) (fun q => q.elim (fun h => absurd h.1 (pn hA rfl rfl)) (fun h => absurd h (pn hA rfl rfl))))))).trans ((hF_73 2 j (fun q => q.elim (fun h => absurd h.1 (nn rfl)) (fun q => q.elim (fun h => absurd h.1 (nn rfl)) (fun h => absurd h.1 (nn rfl))))).trans ((hF_64 2 j (fun q => q.elim (fun h => absurd h.1 (nn rfl)) (fun q => q.elim (fun h => absurd h.1 (nn rfl)) (fun h => absurd h.1 (nn rfl))))).trans ((hF_36 2 j (fun h => absurd h.1 (nn rfl))).trans ((hF_26 2 j (fun h => absurd h.1 (nn rfl))).trans (hF_20 2 j (fun h => absurd h.1 (nn rfl))))))))).trans (hF j)) (fun j => ((hF_379 43 j (fun q => q.elim (fun h => absurd h.1 (nn rfl)) (fun q => q.elim (fun h => absurd h.1 (nn rfl)) (fun h => absurd h.1 (nn rfl))))).trans ((hF_360 43 j (fun q => q.elim (fun h => absurd h.1 (nn rfl)) (fun q => q.elim (fun h => absurd h.1 (nn rfl)) (fun q => q.elim (fun h => absurd h.1 (nn rfl)) (fun q => q.elim (fun h => absurd h.1 (nn rfl)) (fun q => q.elim (fun h => absurd h.1 (nn rfl)) (fun q => q.elim (fun h => absurd h (nn rfl)) (fun h => absurd h (nn rfl))))))))).trans ((hF_333 43 j (fun q => q.elim (fun h => absurd h.1 (nn rfl)) (fun q => q.elim (fun h => absurd h.1 (nn rfl)) (fun h => absurd h.1 (nn rfl))))).trans ((up_c (nn rfl)).trans ((up_c (nn rfl)).trans ((hF_307 43 j (fun h => absurd h.1 (nn rfl))).trans ((hF_302 43 j (fun h => absurd h.1 (nn rfl))).trans ((hF_292 43 j (fun h => absurd h.1 (nn rfl))).trans (hF_287 43 j (fun h => absurd h.1 (nn rfl))))))))))).trans (hH j)) hU hR_381 (ce_le hA_396 (by omega)) hG_92 (fun c_397 hI_398 hF_399 hR_401 h_402 h_403 hA_404 => ?_))
                refine bk_inl ?_
                have h_405 := ir_41_29 hI_398
                have h_406 := ir_1_2 hI_90
                have h_407 := ir_41_7 hI_398
                refine q_aload_n rfl rfl ?_
                refine v_bip rfl (by decide) ?_
                have h_408 := ir_41_5 hI_398
                have h_409 := ir_1_5 hI_90
                have h_410 := ir_41_4 hI_398
                have h_411 := ir_41_6 hI_398
                have h_412 := rt_ok hR_401 (by omega)
                have hro_hR_401 := rt_ok hR_401 (by omega)
                have kn_413 : Hid (c_89 1 1 = e1) := (hF_91 1 1 (fun q => q.elim (fun h => absurd h.2 (ni rfl)) (fun q => q.elim (fun h => absurd h.2 (ni rfl)) (fun q => q.elim (fun h => absurd h.2 (ni rfl)) (fun q => q.elim (fun h => absurd h.1 (pn hA rfl rfl)) (fun h => absurd h (pn hA rfl rfl))))))).trans (hid kn_390)
                have kn_414 : Hid (c_397 41 3 = e1) := (hF_399 41 3 (fun q => q.elim (fun h => absurd h.2 (ni rfl)) (fun q => q.elim (fun h => absurd h.2 (ni rfl)) (fun q => q.elim (fun h => absurd h.2 (ni rfl)) (fun q => q.elim (fun h => absurd h.2 (ni rfl)) (fun q => q.elim (fun h => absurd h.2 (ni rfl)) (fun q => q.elim (fun h => absurd h (nn rfl)) (fun h => absurd h (nn rfl))))))))).trans (hid kn_391)
                refine v_cv rfl rfl rfl rfl (by decide) ⟨⟨rfl, rfl⟩, by decide, rfl⟩ (Nat.le_of_ble_eq_true rfl) (Nat.le_of_ble_eq_true rfl) (L_11_5 (m := c_89) (e1 := e1) (a9 := c_89 1 2) (f0 := c_89 1 4) (F := F) (H := H) hI_398 hI_90 hI_96 ((hid kn_413)) ((hid kn_414)) (rfl) (rfl) (fun j => ((hF_91 2 j (fun q => q.elim (fun h => absurd h.1 (nn rfl)) (fun q => q.elim (fun h => absurd h.1 (nn rfl)) (fun q => q.elim (fun h => absurd h.1 (nn rfl)) (fun q => q.elim (fun h => absurd h.1 (pn hA rfl rfl)) (fun h => absurd h (pn hA rfl rfl))))))).trans ((hF_85 2 j (fun q => q.elim (fun h => absurd h.1 (nn rfl)) (fun q => q.elim (fun h => absurd h.1 (nn rfl)) (fun h => absurd h.1 (nn rfl))))).trans ((hF_79 2 j (fun q => q.elim (fun h => absurd h.1 (nn rfl)) (fun q => q.elim (fun h => absurd h.1 (nn rfl)) (fun q => q.elim (fun h => absurd h.1 (nn rfl)) (fun q => q.elim (fun h => absurd h.1 (pn hA rfl rfl)) (fun h => absurd h (pn hA rfl rfl))))))).trans ((hF_73 2 j (fun q => q.elim (fun h => absurd h.1 (nn rfl)) (fun q => q.elim (fun h => absurd h.1 (nn rfl)) (fun h => absurd h.1 (nn rfl))))).trans ((hF_64 2 j (fun q => q.elim (fun h => absurd h.1 (nn rfl)) (fun q => q.elim (fun h => absurd h.1 (nn rfl)) (fun h => absurd h.1 (nn rfl))))).trans ((hF_36 2 j (fun h => absurd h.1 (nn rfl))).trans ((hF_26 2 j (fun h => absurd h.1 (nn rfl))).trans (hF_20 2 j (fun h => absurd h.1 (nn rfl)))))))))).trans (hF j)) (fun j => ((hF_399 43 j (fun q => q.elim (fun h => absurd h.1 (nn rfl)) (fun q => q.elim (fun h => absurd h.1 (nn rfl)) (fun q => q.elim (fun h => absurd h.1 (nn rfl)) (fun q => q.elim (fun h => absurd h.1 (nn rfl)) (fun q => q.elim (fun h => absurd h.1 (nn rfl)) (fun q => q.elim (fun h => absurd h (nn rfl)) (fun h => absurd h (nn rfl))))))))).trans ((hF_379 43 j (fun q => q.elim (fun h => absurd h.1 (nn rfl)) (fun q => q.elim (fun h => absurd h.1 (nn rfl)) (fun h => absurd h.1 (nn rfl))))).trans ((hF_360 43 j (fun q => q.elim (fun h => absurd h.1 (nn rfl)) (fun q => q.elim (fun h => absurd h.1 (nn rfl)) (fun q => q.elim (fun h => absurd h.1 (nn rfl)) (fun q => q.elim (fun h => absurd h.1 (nn rfl)) (fun q => q.elim (fun h => absurd h.1 (nn rfl)) (fun q => q.elim (fun h => absurd h (nn rfl)) (fun h => absurd h (nn rfl))))))))).trans ((hF_333 43 j (fun q => q.elim (fun h => absurd h.1 (nn rfl)) (fun q => q.elim (fun h => absurd h.1 (nn rfl)) (fun h => absurd h.1 (nn rfl))))).trans ((up_c (nn rfl)).trans ((up_c (nn rfl)).trans ((hF_307 43 j (fun h => absurd h.1 (nn rfl))).trans ((hF_302 43 j (fun h => absurd h.1 (nn rfl))).trans ((hF_292 43 j (fun h => absurd h.1 (nn rfl))).trans (hF_287 43 j (fun h => absurd h.1 (nn rfl)))))))))))).trans (hH j)) hU hR_401 hG_98 (fun c_415 hI_416 hF_417 hR_419 h_420 h_421 => ?_))
                refine bk_inl ?_
                refine q_aload_n rfl rfl ?_
                refine q_dup rfl rfl ?_
                have kn_422 : Hid (c_415 41 7 = c_397 41 7) := hF_417 41 7 (fun q => q.elim (fun h => absurd h.2 (ni rfl)) (fun q => q.elim (fun h => absurd h.2 (ni rfl)) (fun h => absurd h.2 (ni rfl))))
                refine v_gi (z := 7) (v := c_397 41 7) rfl rfl rfl (by decide) rfl rfl (hid kn_422) ?_
                refine q_iconst rfl ?_
                refine v_isub (v := c_397 41 7 - 1) rfl rfl ?_
                refine v_pi (z := 7) rfl rfl rfl (by decide) rfl rfl rfl (by decide) ?_
                refine q_aload_n rfl rfl ?_
                refine q_iload_n rfl rfl ?_
                refine q_iconst rfl ?_
                refine v_cv rfl rfl rfl rfl (by decide) ⟨⟨rfl, rfl⟩, by decide, rfl⟩ (Nat.le_of_ble_eq_true rfl) (Nat.le_of_ble_eq_true rfl) ?_
                refine q_aload_n rfl rfl ?_
                refine v_cv rfl rfl rfl rfl (by decide) ⟨⟨rfl, rfl⟩, by decide, rfl⟩ (Nat.le_of_ble_eq_true rfl) (Nat.le_of_ble_eq_true rfl) ?_
                refine q_aload_n rfl rfl ?_
                have h_423 := ir_41_5 hI_416
                have h_424 := ir_41_4 hI_416
                have h_425 := ir_41_6 hI_416
                have h_426 := rt_or hR_419
                refine v_gi (z := 5) (v := c_415 41 5) rfl rfl rfl (by decide) rfl rfl (up_n (by decide)) ?_
                refine q_iconst rfl ?_
                by_cases h_427 : c_415 41 5 ≠ (-1)
                · refine v_ic_ne_t (t := 12) rfl (by decide) ⟨h_427, ⟨(Int.le_trans (by decide) h_423.1), (Int.le_trans h_423.2 (by decide))⟩, by decide, by decide⟩ ?_
                  refine q_iconst rfl ?_
                  refine v_zret rfl rfl (by decide) ?_
                  refine bk_inl ?_
                  refine v_if_ne_f (t := 8) rfl (by decide) (by decide) ?_
                  refine q_vret rfl rfl ?_
                  refine bk_inl ?_
                  refine q_vret rfl rfl ?_
                  refine bk_inl ?_
                  refine q_goto (t := 154) rfl (by decide) ?_
                  refine q_vret rfl rfl ?_
                  have hI_428 := iw_41_7 (v := c_397 41 7 - 1) hI_416 ⟨by first | (clear hq0 hq1 hq2 hq3 hq4 hq5 hq8 h_1 h_2 h_3 h_4 h_5 h_6 h_7 h_8 h_9 h_10 h_11 h_46 h_65 h_66 h_70 h_75 h_76 h_81 h_82 h_87 h_88 h_93 h_94 h_99 h_266 h_267 h_268 h_269 h_270 h_271 h_272 h_273 h_274 h_275 h_276 h_277 h_278 h_279 h_280 h_281 h_282 h_284 h_297 h_299 h_338 h_339 h_340 h_341 h_342 h_343 h_366 h_367 h_368 h_369 h_364 h_370 h_371 h_372 h_373 h_374 h_384 h_385 h_386 h_387 h_388 h_389 h_405 h_406 h_407 h_408 h_409 h_410 h_411 h_412 h_423 h_424 h_425 hq6 hq7 h_12 h_21 h_37 h_283 h_295 h_336 h_337 h_363 h_382 h_383 h_402 h_420 h_421 h_426 h_427; omega) | omega, by first | exact rgm_h h_407.2 (by decide) | omega⟩
                  have hrb_hR_419 := rt_bad hR_419 (by omega)
                  have h_429 : (up c_415 41 7 (c_397 41 7 - 1)) 41 5 = c_95 1 5 := (((up_n (by decide))).trans (hrb_hR_419.2.1))
                  have h_430 : (up c_415 41 7 (c_397 41 7 - 1)) 41 4 = c_415 41 4 := (up_n (by decide))
                  have h_431 : (up c_415 41 7 (c_397 41 7 - 1)) 41 6 = c_95 1 4 := (((up_n (by decide))).trans (hrb_hR_419.2.2.2))
                  have kn_432 : Hid (c_415 41 29 = c_397 41 29) := hF_417 41 29 (fun q => q.elim (fun h => absurd h.2 (ni rfl)) (fun q => q.elim (fun h => absurd h.2 (ni rfl)) (fun h => absurd h.2 (ni rfl))))
                  have h_433 : (up c_415 41 7 (c_397 41 7 - 1)) 41 29 = c_397 41 29 := ((up_n (by decide)).trans (hid kn_432))
                  have h_434 : (up c_415 41 7 (c_397 41 7 - 1)) 41 7 = c_397 41 7 - 1 := (up_e rfl)
                  have h_435 : (up c_415 41 7 (c_397 41 7 - 1)) 41 29 = c_397 41 29 := ((up_n (by decide)).trans (hid kn_432))
                  exact K (up c_415 41 7 (c_397 41 7 - 1))  hI_428 (fun a j hm => (up_b (Decidable.or_iff_not_imp_left.mpr (fun h1 h2 => hm (Or.inr (Or.inr (Or.inr (Or.inl ⟨Decidable.not_not.mp h1, h2⟩))))))).trans ((hF_417 a j (fun q => q.elim (fun h => hm (Or.inl h)) (fun q => q.elim (fun h => hm (Or.inr (Or.inl h))) (fun h => hm (Or.inr (Or.inr (Or.inl h))))))).trans ((hF_399 a j (fun q => q.elim (fun h => hm (Or.inl h)) (fun q => q.elim (fun h => hm (Or.inr (Or.inl h))) (fun q => q.elim (fun h => hm (Or.inr (Or.inr (Or.inl h)))) (fun q => q.elim (fun h => hm (Or.inr (Or.inr (Or.inr (Or.inl h))))) (fun q => q.elim (fun h => hm (Or.inr (Or.inr (Or.inr (Or.inr (Or.inl h)))))) (fun q => q.elim (fun h => hm (Or.inr (Or.inr (Or.inr (Or.inr (Or.inr (Or.inl h))))))) (fun h => hm (Or.inr (Or.inr (Or.inr (Or.inr (Or.inr (Or.inr h)))))))))))))).trans ((hF_379 a j (fun q => q.elim (fun h => hm (Or.inl h)) (fun q => q.elim (fun h => hm (Or.inr (Or.inl h))) (fun h => hm (Or.inr (Or.inr (Or.inl h))))))).trans ((hF_360 a j (fun q => q.elim (fun h => hm (Or.inl h)) (fun q => q.elim (fun h => hm (Or.inr (Or.inl h))) (fun q => q.elim (fun h => hm (Or.inr (Or.inr (Or.inl h)))) (fun q => q.elim (fun h => hm (Or.inr (Or.inr (Or.inr (Or.inl h))))) (fun q => q.elim (fun h => hm (Or.inr (Or.inr (Or.inr (Or.inr (Or.inl h)))))) (fun q => q.elim (fun h => hm (Or.inr (Or.inr (Or.inr (Or.inr (Or.inr (Or.inl h))))))) (fun h => hm (Or.inr (Or.inr (Or.inr (Or.inr (Or.inr (Or.inr h)))))))))))))).trans ((hF_333 a j (fun q => q.elim (fun h => hm (Or.inl h)) (fun q => q.elim (fun h => hm (Or.inr (Or.inl h))) (fun h => hm (Or.inr (Or.inr (Or.inl h))))))).trans ((up_b (Decidable.or_iff_not_imp_left.mpr (fun h1 h2 => hm (Or.inr (Or.inr (Or.inr (Or.inl ⟨Decidable.not_not.mp h1, h2⟩))))))).trans ((up_b (Decidable.or_iff_not_imp_left.mpr (fun h1 h2 => hm (Or.inl ⟨Decidable.not_not.mp h1, h2⟩)))).trans ((hF_307 a j (fun h => hm (Or.inl h))).trans ((hF_302 a j (fun h => hm (Or.inl h))).trans ((hF_292 a j (fun h => hm (Or.inl h))).trans (hF_287 a j (fun h => hm (Or.inl h)))))))))))))) (rt_i2 ⟨⟨by first | (clear ha2 hq0 hq1 hq2 hq3 hq8 h_3 h_4 h_5 h_6 h_7 h_8 h_9 h_11 h_65 h_66 h_70 h_75 h_76 h_81 h_82 h_87 h_88 h_99 h_270 h_273 h_275 h_276 h_277 h_278 h_279 h_280 h_281 h_282 h_284 h_297 h_299 h_338 h_339 h_340 h_341 h_342 h_343 h_366 h_367 h_368 h_369 h_364 h_370 h_371 h_372 h_373 h_374 h_384 h_385 h_386 h_387 h_388 h_389 h_405 h_407 h_403 h_408 h_409 h_410 h_411 h_295 h_337 h_383; omega) | omega, by first | (clear ha2 hq0 hq1 hq2 hq3 hq4 hq5 hq8 h_1 h_2 h_3 h_4 h_5 h_6 h_7 h_8 h_9 h_10 h_11 h_46 h_65 h_66 h_70 h_75 h_76 h_81 h_82 h_87 h_88 h_93 h_94 h_99 h_266 h_268 h_269 h_270 h_271 h_272 h_273 h_274 h_275 h_276 h_277 h_278 h_279 h_280 h_281 h_282 h_284 h_297 h_299 h_338 h_339 h_340 h_341 h_342 h_343 h_366 h_367 h_368 h_369 h_364 h_370 h_371 h_372 h_373 h_374 h_384 h_385 h_386 h_387 h_388 h_389 h_405 h_406 h_407 h_403 h_408 h_409 h_410 h_411 h_412 h_423 h_424 h_425 hq6 hq7 h_12 h_21 h_37 h_283 h_295 h_336 h_337 h_363 h_382 h_383 h_402 h_420 h_421 h_426 h_427; omega) | omega⟩, by first | (clear ha2 hq0 hq1 hq2 hq3 hq4 hq5 hq8 h_1 h_2 h_3 h_4 h_5 h_6 h_7 h_8 h_9 h_10 h_11 h_46 h_65 h_66 h_70 h_75 h_76 h_81 h_82 h_87 h_88 h_93 h_94 h_99 h_266 h_267 h_268 h_269 h_270 h_271 h_272 h_273 h_275 h_276 h_277 h_278 h_279 h_280 h_281 h_282 h_284 h_297 h_299 h_338 h_339 h_340 h_341 h_342 h_343 h_366 h_367 h_368 h_369 h_364 h_370 h_371 h_372 h_373 h_374 h_384 h_385 h_386 h_387 h_388 h_389 h_405 h_406 h_407 h_403 h_408 h_409 h_410 h_411 h_412 h_423 h_424 h_425 hq6 hq7 h_12 h_21 h_37 h_283 h_295 h_336 h_337 h_363 h_382 h_383 h_402 h_420 h_421 h_426 h_427; omega) | omega, by first | (clear ha2 hq0 hq1 hq2 hq3 hq4 hq5 hq8 h_1 h_2 h_3 h_4 h_5 h_6 h_7 h_8 h_9 h_10 h_11 h_46 h_65 h_66 h_70 h_75 h_76 h_81 h_82 h_87 h_88 h_93 h_94 h_99 h_267 h_270 h_275 h_276 h_277 h_278 h_279 h_280 h_281 h_282 h_284 h_297 h_299 h_338 h_339 h_340 h_341 h_342 h_343 h_366 h_367 h_368 h_369 h_364 h_370 h_371 h_372 h_373 h_374 h_384 h_385 h_386 h_387 h_388 h_389 h_405 h_406 h_407 h_403 h_408 h_409 h_410 h_411 h_412 hq6 hq7 h_12 h_21 h_37 h_283 h_295 h_336 h_337 h_363 h_382 h_383 h_402; omega) | omega, by first | (clear ha2 hq0 hq1 hq2 hq3 hq4 hq5 hq8 h_1 h_2 h_3 h_4 h_5 h_6 h_7 h_8 h_9 h_10 h_11 h_46 h_65 h_66 h_70 h_75 h_76 h_81 h_82 h_87 h_88 h_93 h_94 h_99 h_266 h_267 h_269 h_270 h_271 h_272 h_273 h_274 h_275 h_276 h_277 h_278 h_279 h_280 h_281 h_282 h_284 h_297 h_299 h_338 h_339 h_340 h_341 h_342 h_343 h_366 h_367 h_368 h_369 h_364 h_370 h_371 h_372 h_373 h_374 h_384 h_385 h_386 h_387 h_388 h_389 h_405 h_406 h_407 h_403 h_408 h_409 h_410 h_411 h_412 h_423 h_424 h_425 hq6 hq7 h_12 h_21 h_37 h_283 h_295 h_336 h_337 h_363 h_382 h_383 h_402 h_420 h_421 h_426 h_427; omega) | omega⟩) (Or.inr (Or.inl (by first | (clear ha2 hq0 hq1 hq2 hq3 hq8 h_3 h_4 h_5 h_6 h_7 h_8 h_9 h_11 h_65 h_66 h_70 h_75 h_76 h_81 h_82 h_87 h_88 h_99 h_270 h_273 h_275 h_276 h_277 h_278 h_279 h_280 h_281 h_282 h_284 h_297 h_299 h_338 h_339 h_340 h_341 h_342 h_343 h_366 h_367 h_368 h_369 h_364 h_370 h_371 h_372 h_373 h_374 h_384 h_385 h_386 h_387 h_388 h_389 h_405 h_407 h_403 h_408 h_409 h_410 h_411 h_295 h_337 h_383; omega) | omega))) (by first | (clear ha2 hq0 hq1 hq2 hq3 hq4 hq5 hq8 h_1 h_2 h_3 h_4 h_5 h_6 h_7 h_8 h_9 h_10 h_11 h_46 h_65 h_66 h_70 h_75 h_76 h_81 h_82 h_87 h_88 h_93 h_94 h_99 h_266 h_267 h_268 h_269 h_270 h_271 h_272 h_273 h_274 h_275 h_276 h_277 h_278 h_279 h_280 h_281 h_282 h_284 h_297 h_299 h_338 h_339 h_340 h_341 h_342 h_343 h_366 h_367 h_368 h_369 h_364 h_370 h_371 h_372 h_373 h_374 h_384 h_385 h_386 h_387 h_388 h_389 h_405 h_406 h_407 h_408 h_409 h_410 h_411 h_412 h_423 h_424 h_425 hq6 hq7 h_12 h_21 h_37 h_283 h_295 h_336 h_337 h_363 h_382 h_383 h_402 h_420 h_421 h_426 h_427; omega) | omega) (fun hz => absurd hz (by omega))
                · refine v_ic_ne_f (t := 12) rfl (by decide) (Decidable.not_not.mp h_427) ?_
                  refine q_iconst rfl ?_
                  refine q_goto (t := 13) rfl (by decide) ?_
                  refine v_zret rfl rfl (by decide) ?_
                  refine bk_inl ?_
                  refine v_if_ne_t (t := 8) rfl (by decide) (by decide) ?_
                  refine q_aload_n rfl rfl ?_
                  refine v_gr (t := 50) rfl rfl rfl (by decide) rfl ?_
                  refine q_aload_n rfl rfl ?_
                  have kn_436 : Hid (c_415 41 29 = c_397 41 29) := hF_417 41 29 (fun q => q.elim (fun h => absurd h.2 (ni rfl)) (fun q => q.elim (fun h => absurd h.2 (ni rfl)) (fun h => absurd h.2 (ni rfl))))
                  refine v_gi (z := 29) (v := c_397 41 29) rfl rfl rfl (by decide) rfl rfl ((up_n (by decide)).trans (hid kn_436)) ?_
                  refine q_iload_n rfl rfl ?_
                  refine v_is rfl rfl (by decide) (by decide) (by omega) ?_
                  refine q_aload_n rfl rfl ?_
                  refine v_gr (t := 51) rfl rfl rfl (by decide) rfl ?_
                  refine q_aload_n rfl rfl ?_
                  refine v_gi (z := 29) (v := c_397 41 29) rfl rfl rfl (by decide) rfl rfl ((up_c (nn rfl)).trans ((up_n (by decide)).trans (hid kn_436))) ?_
                  refine q_iload_n rfl rfl ?_
                  refine v_is rfl rfl (by decide) (by decide) (by omega) ?_
                  refine q_aload_n rfl rfl ?_
                  refine q_dup rfl rfl ?_
                  refine v_gi (z := 29) (v := c_397 41 29) rfl rfl rfl (by decide) rfl rfl ((up_c (nn rfl)).trans ((up_c (nn rfl)).trans ((up_n (by decide)).trans (hid kn_436)))) ?_
                  refine q_iconst rfl ?_
                  refine v_iadd (v := c_397 41 29 + 1) rfl rfl ?_
                  refine v_pi (z := 29) rfl rfl rfl (by decide) rfl rfl rfl (by decide) ?_
                  refine q_vret rfl rfl ?_
                  refine bk_inl ?_
                  refine q_vret rfl rfl ?_
                  refine bk_inl ?_
                  refine q_goto (t := 154) rfl (by decide) ?_
                  refine q_vret rfl rfl ?_
                  have hI_437 := iw_41_7 (v := c_397 41 7 - 1) hI_416 ⟨by first | (clear hq0 hq1 hq2 hq3 hq4 hq5 hq8 h_1 h_2 h_3 h_4 h_5 h_6 h_7 h_8 h_9 h_10 h_11 h_46 h_65 h_66 h_70 h_75 h_76 h_81 h_82 h_87 h_88 h_93 h_94 h_99 h_266 h_267 h_268 h_269 h_270 h_271 h_272 h_273 h_274 h_275 h_276 h_277 h_278 h_279 h_280 h_281 h_282 h_284 h_297 h_299 h_338 h_339 h_340 h_341 h_342 h_343 h_366 h_367 h_368 h_369 h_364 h_370 h_371 h_372 h_373 h_374 h_384 h_385 h_386 h_387 h_388 h_389 h_405 h_406 h_407 h_408 h_409 h_410 h_411 h_412 h_423 h_424 h_425 hq6 hq7 h_12 h_21 h_37 h_283 h_295 h_336 h_337 h_363 h_382 h_383 h_402 h_420 h_421 h_426; omega) | omega, by first | exact rgm_h h_407.2 (by decide) | omega⟩
                  have hI_438 := iw_50 (j := c_397 41 29) (v := 7) hI_437 ⟨by decide, by decide⟩
                  have hI_439 := iw_51 (j := c_397 41 29) (v := 0) hI_438 ⟨by decide, by decide⟩
                  have hI_440 := iw_41_29 (v := c_397 41 29 + 1) hI_439 ⟨by first | exact rgp_l h_405.1 (by decide) | omega, by first | (clear ha2 hq0 hq1 hq2 hq3 hq8 h_3 h_4 h_5 h_6 h_7 h_8 h_9 h_11 h_65 h_66 h_70 h_75 h_76 h_81 h_82 h_87 h_88 h_266 h_267 h_268 h_269 h_270 h_271 h_272 h_273 h_274 h_275 h_277 h_278 h_279 h_280 h_281 h_282 h_284 h_297 h_299 h_338 h_339 h_340 h_341 h_342 h_343 h_366 h_368 h_369 h_364 h_370 h_371 h_372 h_373 h_374 h_385 h_386 h_387 h_388 h_407 h_403 h_408 h_409 h_410 h_411 h_423 h_424 h_425 h_295 h_337 h_383 h_426; omega) | omega⟩
                  have hro_hR_419 := rt_ok hR_419 (by omega)
                  have h_441 : (up (up (up (up c_415 41 7 (c_397 41 7 - 1)) 50 (c_397 41 29) 7) 51 (c_397 41 29) 0) 41 29 (c_397 41 29 + 1)) 41 5 = (-1) := ((((up_n (by decide)).trans ((up_c (nn rfl)).trans ((up_c (nn rfl)).trans (up_n (by decide)))))).trans (hro_hR_419.2.1))
                  have h_442 : (up (up (up (up c_415 41 7 (c_397 41 7 - 1)) 50 (c_397 41 29) 7) 51 (c_397 41 29) 0) 41 29 (c_397 41 29 + 1)) 41 4 = c_95 1 2 := ((((up_n (by decide)).trans ((up_c (nn rfl)).trans ((up_c (nn rfl)).trans (up_n (by decide)))))).trans (hro_hR_419.2.2.1))
                  have h_443 : (up (up (up (up c_415 41 7 (c_397 41 7 - 1)) 50 (c_397 41 29) 7) 51 (c_397 41 29) 0) 41 29 (c_397 41 29 + 1)) 41 6 = c_415 41 6 := ((up_n (by decide)).trans ((up_c (nn rfl)).trans ((up_c (nn rfl)).trans (up_n (by decide)))))
                  have h_444 : (up (up (up (up c_415 41 7 (c_397 41 7 - 1)) 50 (c_397 41 29) 7) 51 (c_397 41 29) 0) 41 29 (c_397 41 29 + 1)) 41 29 = c_397 41 29 + 1 := (up_e rfl)
                  have h_445 : (up (up (up (up c_415 41 7 (c_397 41 7 - 1)) 50 (c_397 41 29) 7) 51 (c_397 41 29) 0) 41 29 (c_397 41 29 + 1)) 41 7 = c_397 41 7 - 1 := ((up_n (by decide)).trans ((up_c (nn rfl)).trans ((up_c (nn rfl)).trans (up_e rfl))))
                  have h_446 : (up (up (up (up c_415 41 7 (c_397 41 7 - 1)) 50 (c_397 41 29) 7) 51 (c_397 41 29) 0) 41 29 (c_397 41 29 + 1)) 41 29 = c_397 41 29 + 1 := (up_e rfl)
                  have hA_447 : Ce (c_397 41 29 + 1) ((up (up c_95 (A + 9) (c_89 (A + 7) 5) ((wd1_0 F (nx F e1 p0) (ln F e1 (nx F e1 p0))) + 1997)) (A + 7) 5 (c_89 (A + 7) 5 + 1)) (A + 9)) ((up (up (up (up c_415 41 7 (c_397 41 7 - 1)) 50 (c_397 41 29) 7) 51 (c_397 41 29) 0) 41 29 (c_397 41 29 + 1)) 50) ((up (up (up (up c_415 41 7 (c_397 41 7 - 1)) 50 (c_397 41 29) 7) 51 (c_397 41 29) 0) 41 29 (c_397 41 29 + 1)) 51) := ce_w (i := c_89 (A + 7) 5) (v := (wd1_0 F (nx F e1 p0) (ln F e1 (nx F e1 p0))) + 1997) (w := 7) (o := 0) (hA_404 (by omega)) (by omega) ((up_c (pp rfl)).trans (up_e rfl)) ((up_c (nn rfl)).trans ((up_c (nn rfl)).trans (up_e (by omega)))) ((up_c (nn rfl)).trans (up_e (by omega))) (fun j hj => (up_c (pp rfl)).trans ((up_n hj).trans (hF_97 (A + 9) j (fun q => q.elim (fun h => absurd h.1 (np hA rfl rfl)) (fun q => q.elim (fun h => absurd h.1 (np hA rfl rfl)) (fun h => absurd h.1 (np hA rfl rfl))))))) (fun j hj => (up_c (nn rfl)).trans ((up_c (nn rfl)).trans ((up_n (by omega)).trans ((up_c (nn rfl)).trans (hF_417 50 j (fun q => q.elim (fun h => absurd h.1 (nn rfl)) (fun q => q.elim (fun h => absurd h.1 (nn rfl)) (fun h => absurd h.1 (nn rfl))))))))) (fun j hj => (up_c (nn rfl)).trans ((up_n (by omega)).trans ((up_c (nn rfl)).trans ((up_c (nn rfl)).trans (hF_417 51 j (fun q => q.elim (fun h => absurd h.1 (nn rfl)) (fun q => q.elim (fun h => absurd h.1 (nn rfl)) (fun h => absurd h.1 (nn rfl))))))))) (cr_i4 ⟨by first | (clear ha2 hq0 hq1 hq2 hq3 hq4 hq5 h_1 h_2 h_3 h_4 h_5 h_6 h_7 h_8 h_9 h_10 h_11 h_46 h_65 h_66 h_70 h_75 h_76 h_81 h_82 h_87 h_88 h_93 h_94 h_99 h_266 h_267 h_268 h_269 h_270 h_271 h_272 h_273 h_274 h_275 h_276 h_277 h_278 h_279 h_280 h_281 h_282 h_284 h_297 h_299 h_338 h_339 h_340 h_341 h_342 h_343 h_366 h_367 h_368 h_369 h_364 h_370 h_371 h_372 h_373 h_374 h_384 h_385 h_386 h_387 h_388 h_389 h_405 h_406 h_407 h_403 h_408 h_409 h_410 h_411 h_412 h_423 h_424 h_425 hq6 hq7 h_12 h_21 h_37 h_283 h_295 h_336 h_337 h_363 h_382 h_383 h_402 h_420 h_421 h_426; omega) | omega, by first | (clear ha2 hq0 hq1 hq2 hq3 hq4 hq5 h_1 h_2 h_3 h_4 h_5 h_6 h_7 h_8 h_9 h_10 h_11 h_46 h_65 h_66 h_70 h_75 h_76 h_81 h_82 h_87 h_88 h_93 h_94 h_99 h_266 h_267 h_268 h_269 h_270 h_271 h_272 h_273 h_274 h_275 h_276 h_277 h_278 h_279 h_280 h_281 h_282 h_284 h_297 h_299 h_338 h_339 h_340 h_341 h_342 h_343 h_366 h_367 h_368 h_369 h_364 h_370 h_371 h_372 h_373 h_374 h_384 h_385 h_386 h_387 h_388 h_389 h_405 h_406 h_407 h_403 h_408 h_409 h_410 h_411 h_412 h_423 h_424 h_425 hq6 hq7 h_12 h_21 h_37 h_283 h_295 h_336 h_337 h_363 h_382 h_383 h_402 h_420 h_421 h_426; omega) | omega, by first | (clear ha2 hq0 hq1 hq2 hq3 hq4 hq5 h_1 h_2 h_3 h_4 h_5 h_6 h_7 h_8 h_9 h_10 h_11 h_46 h_65 h_66 h_70 h_75 h_76 h_81 h_82 h_87 h_88 h_93 h_94 h_99 h_266 h_267 h_268 h_269 h_270 h_271 h_272 h_273 h_274 h_275 h_276 h_277 h_278 h_279 h_280 h_281 h_282 h_284 h_297 h_299 h_338 h_339 h_340 h_341 h_342 h_343 h_366 h_367 h_368 h_369 h_364 h_370 h_371 h_372 h_373 h_374 h_384 h_385 h_386 h_387 h_388 h_389 h_405 h_406 h_407 h_403 h_408 h_409 h_410 h_411 h_412 h_423 h_424 h_425 hq6 hq7 h_12 h_21 h_37 h_283 h_295 h_336 h_337 h_363 h_382 h_383 h_402 h_420 h_421 h_426; omega) | omega, by decide⟩)
                  have hA_448 : Ce (c_397 41 29 + 1) (m9 (A + 9)) ((up (up (up (up c_415 41 7 (c_397 41 7 - 1)) 50 (c_397 41 29) 7) 51 (c_397 41 29) 0) 41 29 (c_397 41 29 + 1)) 50) ((up (up (up (up c_415 41 7 (c_397 41 7 - 1)) 50 (c_397 41 29) 7) 51 (c_397 41 29) 0) 41 29 (c_397 41 29 + 1)) 51) := ce_l hA_447 (fun j h1 h2 => wd_av hW (ck_p9 hA) (ck_p9 hA) (by decide) (a68 hA rfl) ⟨h1, by omega⟩ rfl (ir_p9 hI_264 hA j) (ir_p9 hJ9 hA j))
                  exact K (up (up (up (up c_415 41 7 (c_397 41 7 - 1)) 50 (c_397 41 29) 7) 51 (c_397 41 29) 0) 41 29 (c_397 41 29 + 1))  hI_440 (fun a j hm => (up_b (Decidable.or_iff_not_imp_left.mpr (fun h1 h2 => hm (Or.inr (Or.inr (Or.inr (Or.inr (Or.inl ⟨Decidable.not_not.mp h1, h2⟩)))))))).trans ((up_b (Decidable.or_iff_not_imp_left.mpr (fun h1 h2 => hm (Or.inr (Or.inr (Or.inr (Or.inr (Or.inr (Or.inr (Decidable.not_not.mp h1)))))))))).trans ((up_b (Decidable.or_iff_not_imp_left.mpr (fun h1 h2 => hm (Or.inr (Or.inr (Or.inr (Or.inr (Or.inr (Or.inl (Decidable.not_not.mp h1)))))))))).trans ((up_b (Decidable.or_iff_not_imp_left.mpr (fun h1 h2 => hm (Or.inr (Or.inr (Or.inr (Or.inl ⟨Decidable.not_not.mp h1, h2⟩))))))).trans ((hF_417 a j (fun q => q.elim (fun h => hm (Or.inl h)) (fun q => q.elim (fun h => hm (Or.inr (Or.inl h))) (fun h => hm (Or.inr (Or.inr (Or.inl h))))))).trans ((hF_399 a j (fun q => q.elim (fun h => hm (Or.inl h)) (fun q => q.elim (fun h => hm (Or.inr (Or.inl h))) (fun q => q.elim (fun h => hm (Or.inr (Or.inr (Or.inl h)))) (fun q => q.elim (fun h => hm (Or.inr (Or.inr (Or.inr (Or.inl h))))) (fun q => q.elim (fun h => hm (Or.inr (Or.inr (Or.inr (Or.inr (Or.inl h)))))) (fun q => q.elim (fun h => hm (Or.inr (Or.inr (Or.inr (Or.inr (Or.inr (Or.inl h))))))) (fun h => hm (Or.inr (Or.inr (Or.inr (Or.inr (Or.inr (Or.inr h)))))))))))))).trans ((hF_379 a j (fun q => q.elim (fun h => hm (Or.inl h)) (fun q => q.elim (fun h => hm (Or.inr (Or.inl h))) (fun h => hm (Or.inr (Or.inr (Or.inl h))))))).trans ((hF_360 a j (fun q => q.elim (fun h => hm (Or.inl h)) (fun q => q.elim (fun h => hm (Or.inr (Or.inl h))) (fun q => q.elim (fun h => hm (Or.inr (Or.inr (Or.inl h)))) (fun q => q.elim (fun h => hm (Or.inr (Or.inr (Or.inr (Or.inl h))))) (fun q => q.elim (fun h => hm (Or.inr (Or.inr (Or.inr (Or.inr (Or.inl h)))))) (fun q => q.elim (fun h => hm (Or.inr (Or.inr (Or.inr (Or.inr (Or.inr (Or.inl h))))))) (fun h => hm (Or.inr (Or.inr (Or.inr (Or.inr (Or.inr (Or.inr h)))))))))))))).trans ((hF_333 a j (fun q => q.elim (fun h => hm (Or.inl h)) (fun q => q.elim (fun h => hm (Or.inr (Or.inl h))) (fun h => hm (Or.inr (Or.inr (Or.inl h))))))).trans ((up_b (Decidable.or_iff_not_imp_left.mpr (fun h1 h2 => hm (Or.inr (Or.inr (Or.inr (Or.inl ⟨Decidable.not_not.mp h1, h2⟩))))))).trans ((up_b (Decidable.or_iff_not_imp_left.mpr (fun h1 h2 => hm (Or.inl ⟨Decidable.not_not.mp h1, h2⟩)))).trans ((hF_307 a j (fun h => hm (Or.inl h))).trans ((hF_302 a j (fun h => hm (Or.inl h))).trans ((hF_292 a j (fun h => hm (Or.inl h))).trans (hF_287 a j (fun h => hm (Or.inl h))))))))))))))))) (rt_i1 ⟨by first | (clear ha2 hq0 hq1 hq2 hq3 hq4 hq5 hq8 h_1 h_2 h_3 h_4 h_5 h_6 h_7 h_8 h_9 h_10 h_11 h_46 h_65 h_66 h_70 h_75 h_76 h_81 h_82 h_87 h_88 h_93 h_94 h_99 h_269 h_270 h_271 h_272 h_273 h_274 h_275 h_276 h_277 h_278 h_279 h_280 h_281 h_282 h_284 h_297 h_299 h_338 h_339 h_340 h_341 h_342 h_343 h_366 h_367 h_368 h_369 h_364 h_370 h_371 h_372 h_373 h_374 h_384 h_385 h_386 h_387 h_388 h_389 h_405 h_406 h_407 h_403 h_408 h_409 h_410 h_411 h_412 h_423 h_424 h_425 hq6 hq7 h_12 h_21 h_37 h_283 h_295 h_336 h_337 h_363 h_382 h_383 h_402; omega) | omega, by first | (clear ha2 hq0 hq1 hq2 hq3 hq4 hq5 hq8 h_1 h_2 h_3 h_4 h_5 h_6 h_7 h_8 h_9 h_10 h_11 h_46 h_65 h_66 h_70 h_75 h_76 h_81 h_82 h_87 h_88 h_93 h_94 h_99 h_266 h_267 h_268 h_269 h_270 h_271 h_272 h_273 h_274 h_275 h_276 h_277 h_278 h_279 h_280 h_281 h_282 h_284 h_297 h_299 h_338 h_339 h_340 h_341 h_342 h_343 h_366 h_367 h_368 h_369 h_364 h_370 h_371 h_372 h_373 h_374 h_384 h_385 h_386 h_387 h_388 h_389 h_405 h_406 h_407 h_403 h_408 h_409 h_410 h_411 h_412 h_423 h_424 h_425 hq6 hq7 h_12 h_21 h_37 h_283 h_295 h_336 h_337 h_363 h_382 h_383 h_402 h_420 h_421 h_426; omega) | omega, by first | (clear ha2 hq0 hq1 hq2 hq3 hq4 hq5 hq8 h_1 h_2 h_3 h_4 h_5 h_6 h_7 h_8 h_9 h_10 h_11 h_46 h_65 h_66 h_70 h_75 h_76 h_81 h_82 h_87 h_88 h_93 h_94 h_99 h_266 h_267 h_268 h_269 h_270 h_272 h_273 h_274 h_275 h_276 h_277 h_278 h_279 h_280 h_281 h_282 h_284 h_297 h_299 h_338 h_339 h_340 h_341 h_342 h_343 h_366 h_367 h_368 h_369 h_364 h_370 h_371 h_372 h_373 h_374 h_384 h_385 h_386 h_387 h_388 h_389 h_405 h_406 h_407 h_403 h_408 h_409 h_410 h_411 h_412 h_423 h_424 h_425 hq6 hq7 h_12 h_21 h_37 h_283 h_295 h_336 h_337 h_363 h_382 h_383 h_402 h_420 h_421 h_426; omega) | omega, by first | (clear ha2 hq0 hq1 hq2 hq3 hq4 hq5 hq8 h_1 h_2 h_3 h_4 h_5 h_6 h_7 h_8 h_9 h_10 h_11 h_46 h_65 h_66 h_70 h_75 h_76 h_81 h_82 h_87 h_88 h_93 h_94 h_99 h_266 h_267 h_268 h_269 h_270 h_271 h_275 h_276 h_277 h_278 h_279 h_280 h_281 h_282 h_284 h_297 h_299 h_338 h_339 h_340 h_341 h_342 h_343 h_366 h_367 h_368 h_369 h_364 h_370 h_371 h_372 h_373 h_374 h_384 h_385 h_386 h_387 h_388 h_389 h_405 h_406 h_407 h_403 h_408 h_409 h_410 h_411 h_412 h_423 h_424 h_425 hq6 hq7 h_12 h_21 h_37 h_283 h_295 h_336 h_337 h_363 h_382 h_383 h_402 h_420 h_421; omega) | omega⟩) (Or.inr (Or.inr ⟨by first | (clear ha2 hq0 hq1 hq2 hq3 hq8 h_3 h_4 h_5 h_6 h_7 h_8 h_9 h_11 h_65 h_66 h_70 h_75 h_76 h_81 h_82 h_87 h_88 h_266 h_267 h_268 h_269 h_270 h_271 h_272 h_273 h_274 h_277 h_278 h_279 h_280 h_281 h_282 h_284 h_297 h_299 h_338 h_339 h_340 h_341 h_342 h_343 h_366 h_368 h_369 h_364 h_370 h_371 h_372 h_373 h_374 h_385 h_386 h_387 h_388 h_407 h_403 h_408 h_409 h_410 h_411 h_423 h_424 h_425 h_295 h_337 h_383 h_426; omega) | omega, by first | (clear ha2 hq0 hq1 hq2 hq8 h_3 h_4 h_8 h_9 h_11 h_65 h_66 h_70 h_75 h_76 h_87 h_88 h_266 h_267 h_268 h_272 h_273 h_274 h_275 h_277 h_278 h_279 h_281 h_282 h_284 h_297 h_339 h_340 h_341 h_342 h_369 h_364 h_370 h_371 h_372 h_373 h_385 h_386 h_387 h_388 h_407 h_403 h_408 h_409 h_410 h_411 h_423 h_424 h_425 h_295 h_337; omega) | omega, by first | (clear ha2 hq0 hq1 hq2 hq8 h_3 h_4 h_8 h_9 h_65 h_66 h_70 h_267 h_272 h_273 h_274 h_275 h_277 h_278 h_279 h_280 h_297 h_339 h_340 h_341 h_342 h_369 h_364 h_370 h_371 h_372 h_373 h_385 h_386 h_387 h_388 h_407 h_403 h_408 h_409 h_410 h_411 h_423 h_424 h_425; omega) | omega, by first | (clear ha2 hq0 hq1 hq2 hq8 h_8 h_9 h_65 h_66 h_70 h_267 h_273 h_275 h_279 h_339 h_340 h_341 h_342 h_369 h_364 h_370 h_371 h_372 h_373 h_385 h_386 h_387 h_388 h_407 h_403 h_408 h_409 h_410 h_411; omega) | omega⟩)) (by first | (clear ha2 hq0 hq1 hq2 hq3 hq4 hq5 hq8 h_1 h_2 h_3 h_4 h_5 h_6 h_7 h_8 h_9 h_10 h_11 h_46 h_65 h_66 h_70 h_75 h_76 h_81 h_82 h_87 h_88 h_93 h_94 h_99 h_266 h_267 h_268 h_269 h_270 h_271 h_272 h_273 h_274 h_275 h_276 h_277 h_278 h_279 h_280 h_281 h_282 h_284 h_297 h_299 h_338 h_339 h_340 h_341 h_342 h_343 h_366 h_367 h_368 h_369 h_364 h_370 h_371 h_372 h_373 h_374 h_384 h_385 h_386 h_387 h_388 h_389 h_405 h_406 h_407 h_408 h_409 h_410 h_411 h_412 h_423 h_424 h_425 hq6 hq7 h_12 h_21 h_37 h_283 h_295 h_336 h_337 h_363 h_382 h_383 h_402 h_420 h_421 h_426; omega) | omega) (fun _ => ce_le hA_448 (by omega))
          · as_aux_lemma =>
              skip
              refine v_cv rfl rfl rfl rfl (by decide) ⟨⟨rfl, rfl⟩, by decide, rfl⟩ (Nat.le_of_ble_eq_true rfl) (Nat.le_of_ble_eq_true rfl) ?_
              refine q_aload_n rfl rfl ?_
              refine v_cv rfl rfl rfl rfl (by decide) ⟨⟨rfl, rfl⟩, by decide, rfl⟩ (Nat.le_of_ble_eq_true rfl) (Nat.le_of_ble_eq_true rfl) ?_
              refine q_aload_n rfl rfl ?_
              refine v_gi (z := 4) (v := c_89 1 4) rfl rfl rfl (by decide) rfl rfl rfl ?_
              refine v_if_ne_t (t := 11) rfl (by decide) ⟨by first | (clear ha2 hq0 hq1 hq2 hq3 hq4 hq5 hq8 h_1 h_2 h_3 h_4 h_5 h_6 h_7 h_8 h_9 h_10 h_11 h_46 h_65 h_66 h_70 h_75 h_76 h_81 h_82 h_87 h_88 h_93 hq6 hq7 h_12 h_21 h_37; omega) | omega, ⟨(Int.le_trans (by decide) h_93.1), (Int.le_trans h_93.2 (by decide))⟩, by decide, by decide⟩ ?_
              refine q_iconst rfl ?_
              refine v_zret rfl rfl (by decide) ?_
              refine bk_inl ?_
              refine v_if_eq_t (t := 25) rfl (by decide) (by decide) ?_
              refine q_vret rfl rfl ?_
              refine bk_inl ?_
              refine q_aload_n rfl rfl ?_
              refine v_sip rfl (by decide) ?_
              refine q_iload rfl rfl ?_
              refine v_iadd (v := (wd1_0 F (nx F e1 p0) (ln F e1 (nx F e1 p0))) + 2005) rfl (by first | (clear ha2 hq0 hq1 hq2 hq3 hq4 hq5 hq8 h_1 h_2 h_3 h_4 h_5 h_6 h_7 h_8 h_9 h_10 h_11 h_46 h_65 h_66 h_70 h_75 h_76 h_81 h_82 h_87 h_88 h_93 hq6 hq7 h_12 h_21 h_37; omega) | omega) ?_
              refine v_bip rfl (by decide) ?_
              refine v_isub (v := (wd1_0 F (nx F e1 p0) (ln F e1 (nx F e1 p0))) + 1997) rfl (by first | (clear ha2 hq0 hq1 hq2 hq3 hq4 hq5 hq8 h_1 h_2 h_3 h_4 h_5 h_6 h_7 h_8 h_9 h_10 h_11 h_46 h_65 h_66 h_70 h_75 h_76 h_81 h_82 h_87 h_88 h_93 hq6 hq7 h_12 h_21 h_37; omega) | omega) ?_
              refine v_cv rfl rfl rfl (ck_p7 hA) (a68 hA rfl) ⟨⟨rfl, rfl⟩, by decide, rfl⟩ (Nat.le_of_ble_eq_true rfl) (Nat.le_of_ble_eq_true rfl) ?_
              refine q_aload_n rfl rfl ?_
              have h_449 := ir_p7_5 hI_90 hA
              refine v_gi (z := 5) (v := c_89 (A + 7) 5) rfl rfl (ck_p7 hA) (a68 hA rfl) rfl rfl rfl ?_
              refine q_aload_n rfl rfl ?_
              refine v_gr (t := (A + 9)) rfl rfl (ck_p7 hA) (a68 hA rfl) rfl ?_
              refine v_al rfl (ck_p9 hA) (a68 hA rfl) (by decide) ?_
              by_cases h_450 : c_89 (A + 7) 5 ≥ 150
              · refine v_ic_ge_t (t := 32) rfl (by decide) ⟨by decide, h_450, (Int.le_trans h_449.2 (by decide))⟩ ?_
                refine q_vret rfl rfl ?_
                refine bk_inl ?_
                refine q_vret rfl rfl ?_
                intro hE_451
                have hW : Wd P Q P P c_89 = Wd P Q P P m9 := (Prod.mk.inj (Prod.mk.inj hE_451).2).1
                have h_452 := ir_1_4 hJ9
                have h_453 : m9 1 4 = c_89 1 4 := wd_fv (z := 4) 4 rfl hW rfl rfl rfl rfl (by decide) rfl ⟨(Int.le_trans (by decide) h_93.1), (Int.le_trans h_93.2 (by decide))⟩ ⟨(Int.le_trans (by decide) h_452.1), (Int.le_trans h_452.2 (by decide))⟩
                have h_454 := ir_1_2 hI_90
                have h_455 := ir_1_2 hJ9
                have h_456 : m9 1 2 = c_89 1 2 := wd_fv (z := 2) 2 rfl hW rfl rfl rfl rfl (by decide) rfl ⟨(Int.le_trans (by decide) h_454.1), (Int.le_trans h_454.2 (by decide))⟩ ⟨(Int.le_trans (by decide) h_455.1), (Int.le_trans h_455.2 (by decide))⟩
                have h_457 := ir_1_5 hI_90
                have h_458 := ir_1_5 hJ9
                have h_459 : m9 1 5 = c_89 1 5 := wd_fv (z := 5) 5 rfl hW rfl rfl rfl rfl (by decide) rfl ⟨(Int.le_trans (by decide) h_457.1), (Int.le_trans h_457.2 (by decide))⟩ ⟨(Int.le_trans (by decide) h_458.1), (Int.le_trans h_458.2 (by decide))⟩
                have h_460 := ir_p7_5 hJ9 hA
                have h_461 : m9 (A + 7) 5 = c_89 (A + 7) 5 := wd_fv (z := 5) 5 rfl hW (ck_p7 hA) (ck_p7 hA) rfl rfl (by omega) rfl ⟨(Int.le_trans (by decide) h_449.1), (Int.le_trans h_449.2 (by decide))⟩ ⟨(Int.le_trans (by decide) h_460.1), (Int.le_trans h_460.2 (by decide))⟩
                refine q_aload_n rfl rfl ?_
                refine v_cv rfl rfl rfl rfl (by decide) ⟨⟨rfl, rfl⟩, by decide, rfl⟩ (Nat.le_of_ble_eq_true rfl) (Nat.le_of_ble_eq_true rfl) ?_
                refine q_aload_n rfl rfl ?_
                have h_462 := ir_41_5 hI
                have h_463 := ir_41_4 hI
                have h_464 := ir_41_6 hI
                have h_465 := rt_ok hRt (by omega)
                have hro_hRt := rt_ok hRt (by omega)
                refine v_gi (z := 5) (v := (-1)) rfl rfl rfl (by decide) rfl rfl hro_hRt.2.1 ?_
                refine q_iconst rfl ?_
                refine v_ic_ne_f (t := 12) rfl (by decide) (by decide) ?_
                refine q_iconst rfl ?_
                refine q_goto (t := 13) rfl (by decide) ?_
                refine v_zret rfl rfl (by decide) ?_
                refine bk_inl ?_
                refine v_if_ne_t (t := 8) rfl (by decide) (by decide) ?_
                refine q_aload_n rfl rfl ?_
                have h_466 : -2147483648 ≤ (H (nx F e1 p0)) ∧ (H (nx F e1 p0)) ≤ 2147483647 := by rw [← hH (nx F e1 p0)]; exact ir_43 hI (nx F e1 p0)
                have h_467 := hU (nx F e1 p0) (by omega) (by omega)
                have h_468 := hb_or (b := H) (e := e1) (r := (nx F e1 p0))
                have h_469 := hb_bd (b := H) (e := e1) (r := (nx F e1 p0)) (lo := -2147483648) (hi := 2147483647) h_466 (by decide)
                refine v_cv rfl rfl rfl rfl (by decide) ⟨⟨rfl, rfl⟩, by decide, rfl⟩ (Nat.le_of_ble_eq_true rfl) (Nat.le_of_ble_eq_true rfl) (f_154 (e1 := e1) (a9 := p0) (B := H) (r8 := (nx F e1 p0)) (r := (hb H e1 (nx F e1 p0))) hI ((hr_e1)) (((hro_hRt.2.2.1).trans ((hg_p0)))) (fun j => hH j) ((nx_tr hU (by first | (clear ha2 hq0 hq1 hq2 hq3 hq4 hq5 hq8 h_1 h_2 h_3 h_4 h_6 h_7 h_8 h_9 h_10 h_11 h_46 h_65 h_66 h_70 h_75 h_76 h_81 h_82 h_87 h_88 h_93 h_449 h_450 h_452 h_453 h_454 h_455 h_456 h_457 h_458 h_459 h_460 h_461 h_462 h_463 h_464 h_465 hq6 hq7 h_12 h_21 h_37; omega) | omega) (by first | (clear ha2 hq0 hq1 hq2 hq3 hq4 hq8 h_1 h_2 h_3 h_4 h_5 h_6 h_7 h_8 h_9 h_10 h_11 h_46 h_65 h_66 h_70 h_75 h_76 h_81 h_82 h_87 h_88 h_93 h_449 h_450 h_452 h_453 h_454 h_455 h_456 h_457 h_458 h_459 h_460 h_461 h_462 h_463 h_464 h_465 hq6 hq7 h_12 h_21 h_37; omega) | omega)).trans (rfl)) rfl (fun c_470 hI_471 hF_472 h_473 => ?_))
                refine bk_inl ?_
                refine v_bip rfl (by decide) ?_
                refine v_ic_ne_t (t := 45) rfl (by decide) ⟨by first | (clear ha2 hq0 hq1 hq2 hq3 hq8 h_3 h_4 h_5 h_6 h_7 h_8 h_9 h_11 h_65 h_66 h_70 h_75 h_76 h_81 h_82 h_87 h_88 h_93 h_449 h_450 h_452 h_453 h_454 h_455 h_456 h_457 h_458 h_459 h_460 h_461 h_462 h_463 h_464 h_465; omega) | omega, ⟨h_469.1, h_469.2⟩, by decide, by decide⟩ ?_
                refine q_aload_n rfl rfl ?_
                have kn_474 : Hid (c_470 41 3 = e1) := (hF_472 41 3 (fun h => absurd h.2 (ni rfl))).trans (hr_e1)
                refine v_cv rfl rfl rfl rfl (by decide) ⟨⟨rfl, rfl⟩, by decide, rfl⟩ (Nat.le_of_ble_eq_true rfl) (Nat.le_of_ble_eq_true rfl) (f_154 (e1 := e1) (a9 := (nx F e1 p0)) (B := H) (r8 := (nx F e1 p0)) (r := (hb H e1 (nx F e1 p0))) hI_471 ((hid kn_474)) ((h_473)) (fun j => (hF_472 43 j (fun h => absurd h.1 (nn rfl))).trans (hH j)) ((nx_tr hU (by first | (clear ha2 hq0 hq1 hq2 hq3 hq4 hq5 hq8 h_1 h_2 h_3 h_4 h_6 h_7 h_8 h_9 h_11 h_46 h_65 h_66 h_70 h_75 h_76 h_81 h_82 h_87 h_88 h_93 h_449 h_450 h_452 h_453 h_454 h_455 h_456 h_457 h_458 h_459 h_460 h_461 h_462 h_463 h_464 h_465 h_466 h_467 h_469 hq6 hq7 h_12 h_21 h_37 h_468; omega) | omega) (by first | (clear ha2 hq0 hq1 hq2 hq3 hq4 hq8 h_1 h_2 h_3 h_4 h_5 h_6 h_7 h_8 h_9 h_10 h_11 h_46 h_65 h_66 h_70 h_75 h_76 h_81 h_82 h_87 h_88 h_93 h_449 h_450 h_452 h_453 h_454 h_455 h_456 h_457 h_458 h_459 h_460 h_461 h_462 h_463 h_464 h_465 h_466 h_467 h_469 hq6 hq7 h_12 h_21 h_37 h_468; omega) | omega)).trans ((nx_z (by omega)))) rfl (fun c_475 hI_476 hF_477 h_478 => ?_))
                refine bk_inl ?_
                refine q_call rfl rfl rfl rfl (f_156 (a0 := (hb H e1 (nx F e1 p0))) hI_476 (show (-2147483648) ≤ (hb H e1 (nx F e1 p0)) ∧ (hb H e1 (nx F e1 p0)) ≤ 2147483647 from h_469) (fun y_479 hy_479 h_480 => ?_))
                refine bk_inl ?_
                refine v_if_eq_t (t := 71) rfl (by decide) (by first | (clear ha2 hq0 hq1 hq2 hq3 hq8 h_3 h_4 h_5 h_6 h_7 h_8 h_9 h_11 h_65 h_66 h_70 h_75 h_76 h_81 h_82 h_87 h_88 h_93 h_449 h_450 h_452 h_453 h_454 h_455 h_456 h_457 h_458 h_459 h_460 h_461 h_462 h_463 h_464 h_465; omega) | omega) ?_
                refine q_aload_n rfl rfl ?_
                have kn_481 : Hid (c_475 41 3 = e1) := (hF_477 41 3 (fun h => absurd h.2 (ni rfl))).trans (hid kn_474)
                have h_482 := wv_bd (b := F) (r := (nx F e1 p0)) (l := (ln F e1 (nx F e1 p0))) (fun j h1 h2 => ⟨(ln_in (e := e1) (a := (nx F e1 p0)) h1 h2).1, (ln_in (e := e1) (a := (nx F e1 p0)) h1 h2).2.1⟩)
                have h_483 := wr1_9 (b := F) (r := (nx F e1 p0)) (l := (ln F e1 (nx F e1 p0))) (by omega) (fun j h1 h2 => ⟨(ln_in (e := e1) (a := (nx F e1 p0)) h1 h2).1, (ln_in (e := e1) (a := (nx F e1 p0)) h1 h2).2.1⟩) (by omega)
                have h_484 : (wv F (nx F e1 p0) (ln F e1 (nx F e1 p0))) = 441972 → (ln F e1 (nx F e1 p0)) - (nx F e1 p0) = 4 := wl_most (by omega) (fun j h1 h2 => ⟨(ln_in (e := e1) (a := (nx F e1 p0)) h1 h2).1, (ln_in (e := e1) (a := (nx F e1 p0)) h1 h2).2.1⟩)
                refine v_cv rfl rfl rfl rfl (by decide) ⟨⟨rfl, rfl⟩, by decide, rfl⟩ (Nat.le_of_ble_eq_true rfl) (Nat.le_of_ble_eq_true rfl) (f_157 (e1 := e1) (a9 := (nx F e1 p0)) (B := H) (r8 := (nx F e1 p0)) (L8 := (ln F e1 (nx F e1 p0))) (W8 := (wv F (nx F e1 p0) (ln F e1 (nx F e1 p0)))) hI_476 ((hid kn_481)) ((h_478)) (fun j => ((hF_477 43 j (fun h => absurd h.1 (nn rfl))).trans (hF_472 43 j (fun h => absurd h.1 (nn rfl)))).trans (hH j)) ((nx_tr hU (by first | (clear ha2 hq0 hq1 hq2 hq3 hq4 hq5 hq8 h_1 h_2 h_3 h_4 h_6 h_7 h_8 h_9 h_11 h_46 h_65 h_66 h_70 h_75 h_76 h_81 h_82 h_87 h_88 h_93 h_449 h_450 h_452 h_453 h_454 h_455 h_456 h_457 h_458 h_459 h_460 h_461 h_462 h_463 h_464 h_465 h_466 h_467 h_469 hq6 hq7 h_12 h_21 h_37 h_468 h_480; omega) | omega) (by first | (clear ha2 hq0 hq1 hq2 hq3 hq4 hq8 h_1 h_2 h_3 h_4 h_5 h_6 h_7 h_8 h_9 h_10 h_11 h_46 h_65 h_66 h_70 h_75 h_76 h_81 h_82 h_87 h_88 h_93 h_449 h_450 h_452 h_453 h_454 h_455 h_456 h_457 h_458 h_459 h_460 h_461 h_462 h_463 h_464 h_465 h_466 h_467 h_469 hq6 hq7 h_12 h_21 h_37 h_468 h_480; omega) | omega)).trans ((nx_z (by omega)))) ((ln_tr hU (by first | (clear ha2 hq0 hq1 hq2 hq3 hq4 hq5 hq8 h_1 h_2 h_3 h_4 h_6 h_7 h_8 h_9 h_11 h_46 h_65 h_66 h_70 h_75 h_76 h_81 h_82 h_87 h_88 h_93 h_449 h_450 h_452 h_453 h_454 h_455 h_456 h_457 h_458 h_459 h_460 h_461 h_462 h_463 h_464 h_465 h_466 h_467 h_469 hq6 hq7 h_12 h_21 h_37 h_468 h_480; omega) | omega) (by first | (clear ha2 hq0 hq1 hq2 hq3 hq4 hq8 h_1 h_2 h_3 h_4 h_5 h_6 h_7 h_8 h_9 h_10 h_11 h_46 h_65 h_66 h_70 h_75 h_76 h_81 h_82 h_87 h_88 h_93 h_449 h_450 h_452 h_453 h_454 h_455 h_456 h_457 h_458 h_459 h_460 h_461 h_462 h_463 h_464 h_465 h_466 h_467 h_469 hq6 hq7 h_12 h_21 h_37 h_468 h_480; omega) | omega)).trans (rfl)) ((wv_tr hU (by first | (clear ha2 hq0 hq1 hq2 hq3 hq4 hq5 hq8 h_1 h_2 h_3 h_4 h_6 h_7 h_8 h_9 h_11 h_46 h_65 h_66 h_70 h_75 h_76 h_81 h_82 h_87 h_88 h_93 h_449 h_450 h_452 h_453 h_454 h_455 h_456 h_457 h_458 h_459 h_460 h_461 h_462 h_463 h_464 h_465 h_466 h_467 h_469 h_482 h_484 hq6 hq7 h_12 h_21 h_37 h_468 h_480; omega) | omega) (by first | (clear ha2 hq0 hq1 hq2 hq3 hq4 hq8 h_1 h_2 h_3 h_4 h_5 h_6 h_7 h_8 h_9 h_10 h_11 h_65 h_66 h_70 h_75 h_76 h_81 h_82 h_87 h_88 h_93 h_449 h_450 h_452 h_453 h_454 h_455 h_456 h_457 h_458 h_459 h_460 h_461 h_462 h_463 h_464 h_465 h_466 h_467 h_469 h_482 h_484 hq6 hq7 h_12 h_21 h_37 h_468 h_480; omega) | omega) (fun j h1 h2 => ⟨(ln_in (e := e1) (a := (nx F e1 p0)) h1 h2).1, (ln_in (e := e1) (a := (nx F e1 p0)) h1 h2).2.1⟩)).trans (rfl)) (fun c_485 hI_486 hF_487 hz_488 => ?_))
                refine bk_inl ?_
                refine q_ldc_w_s rfl rfl rfl (by decide) ?_
                refine q_call rfl rfl rfl rfl (s_158_20 ?_)
                refine bk_inl ?_
                refine v_ic_ne_t (t := 94) rfl (by decide) ⟨by first | (clear ha2 hq0 hq1 hq2 hq3 hq4 hq5 hq8 h_1 h_2 h_3 h_4 h_5 h_6 h_7 h_8 h_9 h_10 h_11 h_46 h_65 h_66 h_70 h_75 h_76 h_81 h_82 h_87 h_88 h_93 h_449 h_450 h_452 h_453 h_454 h_455 h_456 h_457 h_458 h_459 h_460 h_461 h_462 h_463 h_464 h_465 h_466 h_467 h_469 h_482 hq6 hq7 h_12 h_21 h_37 h_468 h_480; omega) | omega, ⟨(Int.le_trans (by decide) h_482.1), (Int.le_trans h_482.2 (by decide))⟩, by decide, by decide⟩ ?_
                refine q_aload_n rfl rfl ?_
                have kn_489 : Hid (c_485 41 3 = e1) := (hF_487 41 3 (fun h => absurd h.2 (ni rfl))).trans (hid kn_481)
                refine v_cv rfl rfl rfl rfl (by decide) ⟨⟨rfl, rfl⟩, by decide, rfl⟩ (Nat.le_of_ble_eq_true rfl) (Nat.le_of_ble_eq_true rfl) (f_157 (e1 := e1) (a9 := (nx F e1 p0)) (B := H) (r8 := (nx F e1 p0)) (L8 := (ln F e1 (nx F e1 p0))) (W8 := (wv F (nx F e1 p0) (ln F e1 (nx F e1 p0)))) hI_486 ((hid kn_489)) ((hz_488)) (fun j => ((hF_487 43 j (fun h => absurd h.1 (nn rfl))).trans ((hF_477 43 j (fun h => absurd h.1 (nn rfl))).trans (hF_472 43 j (fun h => absurd h.1 (nn rfl))))).trans (hH j)) ((nx_tr hU (by first | (clear ha2 hq0 hq1 hq2 hq3 hq4 hq5 hq8 h_1 h_2 h_3 h_4 h_6 h_7 h_8 h_9 h_11 h_46 h_65 h_66 h_70 h_75 h_76 h_81 h_82 h_87 h_88 h_93 h_449 h_450 h_452 h_453 h_454 h_455 h_456 h_457 h_458 h_459 h_460 h_461 h_462 h_463 h_464 h_465 h_466 h_467 h_469 h_482 h_484 hq6 hq7 h_12 h_21 h_37 h_468 h_480; omega) | omega) (by first | (clear ha2 hq0 hq1 hq2 hq3 hq4 hq8 h_1 h_2 h_3 h_4 h_5 h_6 h_7 h_8 h_9 h_10 h_11 h_46 h_65 h_66 h_70 h_75 h_76 h_81 h_82 h_87 h_88 h_93 h_449 h_450 h_452 h_453 h_454 h_455 h_456 h_457 h_458 h_459 h_460 h_461 h_462 h_463 h_464 h_465 h_466 h_467 h_469 h_482 h_484 hq6 hq7 h_12 h_21 h_37 h_468 h_480; omega) | omega)).trans ((nx_z (by omega)))) ((ln_tr hU (by first | (clear ha2 hq0 hq1 hq2 hq3 hq4 hq5 hq8 h_1 h_2 h_3 h_4 h_6 h_7 h_8 h_9 h_11 h_46 h_65 h_66 h_70 h_75 h_76 h_81 h_82 h_87 h_88 h_93 h_449 h_450 h_452 h_453 h_454 h_455 h_456 h_457 h_458 h_459 h_460 h_461 h_462 h_463 h_464 h_465 h_466 h_467 h_469 h_482 h_484 hq6 hq7 h_12 h_21 h_37 h_468 h_480; omega) | omega) (by first | (clear ha2 hq0 hq1 hq2 hq3 hq4 hq8 h_1 h_2 h_3 h_4 h_5 h_6 h_7 h_8 h_9 h_10 h_11 h_46 h_65 h_66 h_70 h_75 h_76 h_81 h_82 h_87 h_88 h_93 h_449 h_450 h_452 h_453 h_454 h_455 h_456 h_457 h_458 h_459 h_460 h_461 h_462 h_463 h_464 h_465 h_466 h_467 h_469 h_482 h_484 hq6 hq7 h_12 h_21 h_37 h_468 h_480; omega) | omega)).trans (rfl)) ((wv_tr hU (by first | (clear ha2 hq0 hq1 hq2 hq3 hq4 hq5 hq8 h_1 h_2 h_3 h_4 h_6 h_7 h_8 h_9 h_11 h_46 h_65 h_66 h_70 h_75 h_76 h_81 h_82 h_87 h_88 h_93 h_449 h_450 h_452 h_453 h_454 h_455 h_456 h_457 h_458 h_459 h_460 h_461 h_462 h_463 h_464 h_465 h_466 h_467 h_469 h_482 h_484 hq6 hq7 h_12 h_21 h_37 h_468 h_480; omega) | omega) (by first | (clear ha2 hq0 hq1 hq2 hq3 hq4 hq8 h_1 h_2 h_3 h_4 h_5 h_6 h_7 h_8 h_9 h_10 h_11 h_65 h_66 h_70 h_75 h_76 h_81 h_82 h_87 h_88 h_93 h_449 h_450 h_452 h_453 h_454 h_455 h_456 h_457 h_458 h_459 h_460 h_461 h_462 h_463 h_464 h_465 h_466 h_467 h_469 h_482 h_484 hq6 hq7 h_12 h_21 h_37 h_468 h_480; omega) | omega) (fun j h1 h2 => ⟨(ln_in (e := e1) (a := (nx F e1 p0)) h1 h2).1, (ln_in (e := e1) (a := (nx F e1 p0)) h1 h2).2.1⟩)).trans (rfl)) (fun c_490 hI_491 hF_492 hz_493 => ?_))
                refine bk_inl ?_
                refine q_ldc_w_s rfl rfl rfl (by decide) ?_
                refine q_call rfl rfl rfl rfl (s_158_21 ?_)
                refine bk_inl ?_
                refine v_ic_ne_f (t := 117) rfl (by decide) (by first | (clear ha2 hq0 hq1 hq2 hq3 hq4 hq5 hq8 h_1 h_2 h_3 h_4 h_5 h_6 h_7 h_8 h_9 h_10 h_11 h_46 h_65 h_66 h_70 h_75 h_76 h_81 h_82 h_87 h_88 h_93 h_449 h_450 h_452 h_453 h_454 h_455 h_456 h_457 h_458 h_459 h_460 h_461 h_462 h_463 h_464 h_465 h_466 h_467 h_469 h_482 hq6 hq7 h_12 h_21 h_37 h_468 h_480; omega) | omega) ?_
                refine q_aload_n rfl rfl ?_
                refine q_iconst rfl ?_
                refine v_bip rfl (by decide) ?_
                refine v_cv rfl rfl rfl rfl (by decide) ⟨⟨rfl, rfl⟩, by decide, rfl⟩ (Nat.le_of_ble_eq_true rfl) (Nat.le_of_ble_eq_true rfl) ?_
                refine q_aload_n rfl rfl ?_
                refine q_iload_n rfl rfl ?_
                refine v_cv rfl rfl rfl rfl (by decide) ⟨⟨rfl, rfl⟩, by decide, rfl⟩ (Nat.le_of_ble_eq_true rfl) (Nat.le_of_ble_eq_true rfl) ?_
                refine q_aload_n rfl rfl ?_
                refine v_cv rfl rfl rfl rfl (by decide) ⟨⟨rfl, rfl⟩, by decide, rfl⟩ (Nat.le_of_ble_eq_true rfl) (Nat.le_of_ble_eq_true rfl) ?_
                refine q_aload_n rfl rfl ?_
                have kn_494 : Hid (c_470 41 5 = (-1)) := (hF_472 41 5 (fun h => absurd h.2 (ni rfl))).trans hro_hRt.2.1
                have kn_495 : Hid (c_475 41 5 = (-1)) := (hF_477 41 5 (fun h => absurd h.2 (ni rfl))).trans (hid kn_494)
                have kn_496 : Hid (c_485 41 5 = (-1)) := (hF_487 41 5 (fun h => absurd h.2 (ni rfl))).trans (hid kn_495)
                have kn_497 : Hid (c_490 41 5 = (-1)) := (hF_492 41 5 (fun h => absurd h.2 (ni rfl))).trans (hid kn_496)
                refine v_gi (z := 5) (v := (-1)) rfl rfl rfl (by decide) rfl rfl (hid kn_497) ?_
                refine q_iconst rfl ?_
                refine v_ic_ne_f (t := 12) rfl (by decide) (by decide) ?_
                refine q_iconst rfl ?_
                refine q_goto (t := 13) rfl (by decide) ?_
                refine v_zret rfl rfl (by decide) ?_
                refine bk_inl ?_
                refine v_if_eq_f (t := 25) rfl (by decide) (by decide) ?_
                refine q_aload_n rfl rfl ?_
                have kn_498 : Hid (c_470 41 7 = o0) := (hF_472 41 7 (fun h => absurd h.2 (ni rfl))).trans (hr_o0)
                have kn_499 : Hid (c_475 41 7 = o0) := (hF_477 41 7 (fun h => absurd h.2 (ni rfl))).trans (hid kn_498)
                have kn_500 : Hid (c_485 41 7 = o0) := (hF_487 41 7 (fun h => absurd h.2 (ni rfl))).trans (hid kn_499)
                have kn_501 : Hid (c_490 41 7 = o0) := (hF_492 41 7 (fun h => absurd h.2 (ni rfl))).trans (hid kn_500)
                refine v_gi (z := 7) (v := o0) rfl rfl rfl (by decide) rfl rfl (hid kn_501) ?_
                refine v_bip rfl (by decide) ?_
                refine v_ic_ne_t (t := 25) rfl (by decide) ⟨by first | (clear ha2 hq0 hq1 hq3 hq4 hq5 hq8 h_1 h_2 h_3 h_4 h_5 h_6 h_7 h_8 h_9 h_10 h_11 h_46 h_65 h_66 h_75 h_76 h_81 h_82 h_87 h_88 h_93 h_449 h_450 h_452 h_453 h_454 h_455 h_456 h_457 h_458 h_459 h_460 h_461 h_462 h_463 h_464 h_465 h_466 h_467 h_469 h_482 h_484 hq6 hq7 h_12 h_21 h_37 h_468 h_480; omega) | omega, ⟨(Int.le_trans (by decide) (rg_eq hr_o0 h_8).1), (Int.le_trans (rg_eq hr_o0 h_8).2 (by decide))⟩, by decide, by decide⟩ ?_
                refine q_aload_n rfl rfl ?_
                refine v_cv rfl rfl rfl rfl (by decide) ⟨⟨rfl, rfl⟩, by decide, rfl⟩ (Nat.le_of_ble_eq_true rfl) (Nat.le_of_ble_eq_true rfl) ?_
                refine q_aload_n rfl rfl ?_
                refine v_gi (z := 5) (v := (-1)) rfl rfl rfl (by decide) rfl rfl (hid kn_497) ?_
                refine q_iconst rfl ?_
                refine v_ic_ne_f (t := 12) rfl (by decide) (by decide) ?_
                refine q_iconst rfl ?_
                refine q_goto (t := 13) rfl (by decide) ?_
                refine v_zret rfl rfl (by decide) ?_
                refine bk_inl ?_
                refine v_if_eq_f (t := 42) rfl (by decide) (by decide) ?_
                refine q_aload_n rfl rfl ?_
                refine q_dup rfl rfl ?_
                refine v_gi (z := 4) (v := (nx F e1 p0)) rfl rfl rfl (by decide) rfl rfl (hz_493) ?_
                refine q_iload_n rfl rfl ?_
                refine v_iadd (v := (nx F e1 p0) + 4) rfl rfl ?_
                refine v_pi (z := 4) rfl rfl rfl (by decide) rfl rfl rfl (by decide) ?_
                refine q_aload_n rfl rfl ?_
                refine q_dup rfl rfl ?_
                refine v_gi (z := 7) (v := o0) rfl rfl rfl (by decide) rfl rfl ((up_n (by decide)).trans (hid kn_501)) ?_
                refine q_iconst rfl ?_
                refine v_iadd (v := o0 + 1) rfl rfl ?_
                refine v_pi (z := 7) rfl rfl rfl (by decide) rfl rfl rfl (by decide) ?_
                refine q_vret rfl rfl ?_
                refine bk_inl ?_
                refine q_aload_n rfl rfl ?_
                refine v_bip rfl (by decide) ?_
                have hI_502 := iw_41_4 (v := (nx F e1 p0) + 4) hI_491 ⟨by first | exact rgp_l (rg_be h_10 ((rg_eq hg_p0 h_5).1) ((rg_eq hg_e1 h_1).2)).1 (by decide) | omega, by first | exact rgp_h (rg_be h_10 ((rg_eq hg_p0 h_5).1) ((rg_eq hg_e1 h_1).2)).2 (by decide) | omega⟩
                have hI_503 := iw_41_7 (v := o0 + 1) hI_502 ⟨by first | exact rgp_l (rg_eq hr_o0 h_8).1 (by decide) | omega, by first | (clear ha2 hq0 hq1 hq3 hq4 hq5 hq8 h_1 h_2 h_3 h_4 h_5 h_6 h_7 h_8 h_9 h_10 h_11 h_46 h_65 h_66 h_75 h_76 h_81 h_82 h_87 h_88 h_93 h_449 h_450 h_452 h_453 h_454 h_455 h_456 h_457 h_458 h_459 h_460 h_461 h_462 h_463 h_464 h_465 h_466 h_467 h_469 h_482 h_484 hq6 hq7 h_12 h_21 h_37 h_468 h_480; omega) | omega⟩
                have kn_504 : Hid (c_62 1 1 = e1) := (hF_64 1 1 (fun q => q.elim (fun h => absurd h.2 (ni rfl)) (fun q => q.elim (fun h => absurd h.2 (ni rfl)) (fun h => absurd h.2 (ni rfl))))).trans (hid kn_39)
                have kn_505 : Hid (c_490 41 3 = e1) := (hF_492 41 3 (fun h => absurd h.2 (ni rfl))).trans (hid kn_489)
                have h_506 : c_62 1 4 = 0 := (hz_68)
                have h_507 : c_62 1 2 = (ln F e1 (nx F e1 p0)) := (hz_67)
                have h_508 : c_62 1 5 = g0 := (hz_69)
                have h_509 : (up (up c_490 41 4 ((nx F e1 p0) + 4)) 41 7 (o0 + 1)) 41 5 = (-1) := ((up_n (by decide)).trans ((up_n (by decide)).trans (hid kn_497)))
                have h_510 : (up (up c_490 41 4 ((nx F e1 p0) + 4)) 41 7 (o0 + 1)) 41 4 = (nx F e1 p0) + 4 := ((up_n (by decide)).trans (up_e rfl))
                have kn_511 : Hid (c_470 41 6 = c 41 6) := hF_472 41 6 (fun h => absurd h.2 (ni rfl))
                have kn_512 : Hid (c_475 41 6 = c 41 6) := (hF_477 41 6 (fun h => absurd h.2 (ni rfl))).trans (hid kn_511)
                have kn_513 : Hid (c_485 41 6 = c 41 6) := (hF_487 41 6 (fun h => absurd h.2 (ni rfl))).trans (hid kn_512)
                have kn_514 : Hid (c_490 41 6 = c 41 6) := (hF_492 41 6 (fun h => absurd h.2 (ni rfl))).trans (hid kn_513)
                have h_515 : (up (up c_490 41 4 ((nx F e1 p0) + 4)) 41 7 (o0 + 1)) 41 6 = c 41 6 := ((up_n (by decide)).trans ((up_n (by decide)).trans (hid kn_514)))
                refine v_cv rfl rfl rfl rfl (by decide) ⟨⟨rfl, rfl⟩, by decide, rfl⟩ (Nat.le_of_ble_eq_true rfl) (Nat.le_of_ble_eq_true rfl) (L_11_3 (m := c_62) (e1 := e1) (a9 := (ln F e1 (nx F e1 p0))) (f0 := 0) (F := F) (H := H) hI_503 hI_63 hI_72 ((hid kn_504)) (((up_n (by decide)).trans ((up_n (by decide)).trans (hid kn_505)))) ((hz_67)) ((hz_68)) (fun j => ((hF_64 2 j (fun q => q.elim (fun h => absurd h.1 (nn rfl)) (fun q => q.elim (fun h => absurd h.1 (nn rfl)) (fun h => absurd h.1 (nn rfl))))).trans ((hF_36 2 j (fun h => absurd h.1 (nn rfl))).trans ((hF_26 2 j (fun h => absurd h.1 (nn rfl))).trans (hF_20 2 j (fun h => absurd h.1 (nn rfl)))))).trans (hF j)) (fun j => ((up_c (nn rfl)).trans ((up_c (nn rfl)).trans ((hF_492 43 j (fun h => absurd h.1 (nn rfl))).trans ((hF_487 43 j (fun h => absurd h.1 (nn rfl))).trans ((hF_477 43 j (fun h => absurd h.1 (nn rfl))).trans (hF_472 43 j (fun h => absurd h.1 (nn rfl)))))))).trans (hH j)) hU (rt_i1 ⟨by first | (clear ha2 hq0 hq1 hq2 hq3 hq4 hq5 hq8 h_1 h_2 h_3 h_4 h_5 h_6 h_7 h_8 h_9 h_10 h_11 h_46 h_65 h_66 h_70 h_75 h_76 h_81 h_82 h_87 h_88 h_93 h_449 h_450 h_452 h_453 h_454 h_455 h_456 h_457 h_458 h_459 h_460 h_461 h_462 h_463 h_464 h_465 h_466 h_467 h_469 h_482 h_484 hq6 hq7 h_12 h_21 h_37 h_468 h_480; omega) | omega, by first | (clear ha2 hq0 hq1 hq2 hq3 hq4 hq5 hq8 h_1 h_2 h_3 h_4 h_5 h_6 h_7 h_8 h_9 h_10 h_11 h_46 h_65 h_66 h_70 h_75 h_76 h_81 h_82 h_87 h_88 h_93 h_449 h_450 h_452 h_453 h_454 h_455 h_456 h_457 h_458 h_459 h_460 h_461 h_462 h_463 h_464 h_465 h_466 h_467 h_469 h_482 h_484 hq6 hq7 h_12 h_21 h_37 h_468 h_480; omega) | omega, by first | (clear ha2 hq0 hq1 hq2 hq3 hq4 hq5 hq8 h_1 h_2 h_3 h_4 h_5 h_6 h_7 h_8 h_9 h_10 h_11 h_46 h_65 h_66 h_70 h_75 h_76 h_81 h_82 h_87 h_88 h_93 h_449 h_450 h_452 h_453 h_454 h_455 h_456 h_457 h_458 h_459 h_460 h_461 h_462 h_463 h_464 h_465 h_466 h_467 h_469 h_482 hq6 hq7 h_12 h_21 h_37 h_468 h_480; omega) | omega, by first | (clear ha2 hq0 hq2 hq3 hq4 hq5 hq8 h_1 h_2 h_3 h_4 h_5 h_6 h_7 h_8 h_9 h_10 h_11 h_46 h_65 h_66 h_70 h_75 h_76 h_81 h_82 h_87 h_88 h_93 h_449 h_450 h_452 h_453 h_454 h_455 h_456 h_457 h_458 h_459 h_460 h_461 h_462 h_463 h_464 h_465 h_466 h_467 h_469 h_482 h_484 hq6 hq7 h_12 h_21 h_37 h_468 h_480; omega) | omega⟩) hG_74 (fun c_516 hI_517 hF_518 hR_520 h_521 h_522 => ?_))
                refine bk_inl ?_
                have h_523 := ir_1_2 hI_72
                refine q_aload_n rfl rfl ?_
                have h_524 := ir_41_5 hI_517
                have h_525 := ir_1_5 hI_72
                have h_526 := ir_41_4 hI_517
                have h_527 := ir_41_6 hI_517
                have h_528 := rt_ok hR_520 (by omega)
                have hro_hR_520 := rt_ok hR_520 (by omega)
                have kn_529 : Hid (c_71 1 1 = e1) := (hF_73 1 1 (fun q => q.elim (fun h => absurd h.2 (ni rfl)) (fun q => q.elim (fun h => absurd h.2 (ni rfl)) (fun h => absurd h.2 (ni rfl))))).trans (hid kn_504)
                have kn_530 : Hid (c_516 41 3 = e1) := (hF_518 41 3 (fun q => q.elim (fun h => absurd h.2 (ni rfl)) (fun q => q.elim (fun h => absurd h.2 (ni rfl)) (fun h => absurd h.2 (ni rfl))))).trans ((up_n (by decide)).trans ((up_n (by decide)).trans (hid kn_505)))
                have kn_531 : Hid (c_18 (A + 7) 5 = n0) := (hF_20 (A + 7) 5 (fun h => absurd h.1 (np hA rfl rfl))).trans (hg_n0)
                have kn_532 : Hid (c_24 (A + 7) 5 = n0) := (hF_26 (A + 7) 5 (fun h => absurd h.1 (np hA rfl rfl))).trans (hid kn_531)
                have kn_533 : Hid (c_34 (A + 7) 5 = n0) := (hF_36 (A + 7) 5 (fun h => absurd h.1 (np hA rfl rfl))).trans (hid kn_532)
                have kn_534 : Hid (c_62 (A + 7) 5 = n0) := (hF_64 (A + 7) 5 (fun q => q.elim (fun h => absurd h.1 (np hA rfl rfl)) (fun q => q.elim (fun h => absurd h.1 (np hA rfl rfl)) (fun h => absurd h.1 (np hA rfl rfl))))).trans (hid kn_533)
                have kn_535 : Hid (c_71 (A + 7) 5 = n0) := (hF_73 (A + 7) 5 (fun q => q.elim (fun h => absurd h.1 (np hA rfl rfl)) (fun q => q.elim (fun h => absurd h.1 (np hA rfl rfl)) (fun h => absurd h.1 (np hA rfl rfl))))).trans (hid kn_534)
                have kn_536 : Hid (c_470 41 29 = n0) := (hF_472 41 29 (fun h => absurd h.2 (ni rfl))).trans (hr_n0)
                have kn_537 : Hid (c_475 41 29 = n0) := (hF_477 41 29 (fun h => absurd h.2 (ni rfl))).trans (hid kn_536)
                have kn_538 : Hid (c_485 41 29 = n0) := (hF_487 41 29 (fun h => absurd h.2 (ni rfl))).trans (hid kn_537)
                have kn_539 : Hid (c_490 41 29 = n0) := (hF_492 41 29 (fun h => absurd h.2 (ni rfl))).trans (hid kn_538)
                have kn_540 : Hid (c_516 41 29 = n0) := (hF_518 41 29 (fun q => q.elim (fun h => absurd h.2 (ni rfl)) (fun q => q.elim (fun h => absurd h.2 (ni rfl)) (fun h => absurd h.2 (ni rfl))))).trans ((up_n (by decide)).trans ((up_n (by decide)).trans (hid kn_539)))
                have kn_541 : Hid (c_516 41 7 = o0 + 1) := (hF_518 41 7 (fun q => q.elim (fun h => absurd h.2 (ni rfl)) (fun q => q.elim (fun h => absurd h.2 (ni rfl)) (fun h => absurd h.2 (ni rfl))))).trans (up_e rfl)
                have hA_542 : Ce n0 (c_71 (A + 9)) (c_516 50) (c_516 51) := ce_fr hr0 (fun j => (hF_73 (A + 9) j (fun q => q.elim (fun h => absurd h.1 (np hA rfl rfl)) (fun q => q.elim (fun h => absurd h.1 (np hA rfl rfl)) (fun h => absurd h.1 (np hA rfl rfl))))).trans ((hF_64 (A + 9) j (fun q => q.elim (fun h => absurd h.1 (np hA rfl rfl)) (fun q => q.elim (fun h => absurd h.1 (np hA rfl rfl)) (fun h => absurd h.1 (np hA rfl rfl))))).trans ((hF_36 (A + 9) j (fun h => absurd h.1 (np hA rfl rfl))).trans ((hF_26 (A + 9) j (fun h => absurd h.1 (np hA rfl rfl))).trans (hF_20 (A + 9) j (fun h => absurd h.1 (np hA rfl rfl))))))) (fun j => (hF_518 50 j (fun q => q.elim (fun h => absurd h.1 (nn rfl)) (fun q => q.elim (fun h => absurd h.1 (nn rfl)) (fun h => absurd h.1 (nn rfl))))).trans ((up_c (nn rfl)).trans ((up_c (nn rfl)).trans ((hF_492 50 j (fun h => absurd h.1 (nn rfl))).trans ((hF_487 50 j (fun h => absurd h.1 (nn rfl))).trans ((hF_477 50 j (fun h => absurd h.1 (nn rfl))).trans (hF_472 50 j (fun h => absurd h.1 (nn rfl))))))))) (fun j => (hF_518 51 j (fun q => q.elim (fun h => absurd h.1 (nn rfl)) (fun q => q.elim (fun h => absurd h.1 (nn rfl)) (fun h => absurd h.1 (nn rfl))))).trans ((up_c (nn rfl)).trans ((up_c (nn rfl)).trans ((hF_492 51 j (fun h => absurd h.1 (nn rfl))).trans ((hF_487 51 j (fun h => absurd h.1 (nn rfl))).trans ((hF_477 51 j (fun h => absurd h.1 (nn rfl))).trans (hF_472 51 j (fun h => absurd h.1 (nn rfl)))))))))
                refine v_cv rfl rfl rfl rfl (by decide) ⟨⟨rfl, rfl⟩, by decide, rfl⟩ (Nat.le_of_ble_eq_true rfl) (Nat.le_of_ble_eq_true rfl) (H13 (m := c_71) (e1 := e1) (f0 := c_71 1 4) (g0 := c_71 1 5) (p0 := c_71 1 2) (n0 := n0) (o0 := o0 + 1) (by omega) (by omega) hI_517 hI_72 hI_78 (show 0 ≤ a2 + 1 ∧ a2 + 1 ≤ 6 from ⟨by first | exact rgp_l ha2.1 (by decide) | omega, by first | (clear ha2 hq0 hq1 hq2 hq3 hq4 hq5 hq8 h_1 h_2 h_3 h_4 h_5 h_6 h_7 h_8 h_9 h_10 h_11 h_46 h_65 h_66 h_75 h_76 h_81 h_82 h_87 h_88 h_93 h_449 h_450 h_452 h_453 h_454 h_455 h_456 h_457 h_458 h_459 h_460 h_461 h_462 h_463 h_464 h_465 h_466 h_467 h_469 h_482 h_484 h_523 h_524 h_525 h_526 h_527 h_528 hq6 hq7 h_12 h_21 h_37 h_468 h_480 h_521 h_522; omega) | omega⟩) (by first | (clear ha2 hq0 hq1 hq2 hq3 hq4 hq5 hq8 h_1 h_2 h_3 h_4 h_5 h_6 h_7 h_8 h_9 h_10 h_11 h_46 h_65 h_66 h_70 h_81 h_82 h_87 h_88 h_93 h_449 h_450 h_452 h_453 h_454 h_455 h_456 h_457 h_458 h_459 h_460 h_461 h_462 h_463 h_464 h_465 h_466 h_467 h_469 h_482 h_484 h_523 h_524 h_525 h_526 h_527 h_528 hq6 hq7 h_12 h_21 h_37 h_468 h_480 h_521 h_522; omega) | omega) (by first | (clear ha2 hq0 hq1 hq2 hq3 hq4 hq5 hq8 h_1 h_2 h_3 h_4 h_5 h_6 h_7 h_8 h_9 h_10 h_11 h_46 h_65 h_66 h_70 h_75 h_76 h_81 h_82 h_87 h_88 h_93 h_449 h_450 h_452 h_453 h_454 h_455 h_456 h_457 h_458 h_459 h_460 h_461 h_462 h_463 h_464 h_465 h_466 h_467 h_469 h_482 h_484 h_523 h_524 h_526 h_527 hq6 hq7 h_12 h_21 h_37 h_468 h_480 h_521 h_522; omega) | omega) (by first | (clear ha2 hq0 hq1 hq3 hq4 hq5 hq8 h_1 h_2 h_3 h_4 h_5 h_6 h_7 h_8 h_9 h_10 h_11 h_46 h_65 h_66 h_70 h_75 h_76 h_81 h_82 h_87 h_88 h_93 h_449 h_450 h_452 h_453 h_454 h_455 h_456 h_457 h_458 h_459 h_460 h_461 h_462 h_463 h_464 h_465 h_466 h_467 h_469 h_482 h_484 h_523 h_524 h_525 h_526 h_527 h_528 hq6 hq7 h_12 h_21 h_37 h_468 h_480 h_521 h_522; omega) | omega) (by first | (clear ha2 hq0 hq1 hq2 hq8 h_3 h_4 h_8 h_9 h_11 h_65 h_66 h_70 h_81 h_82 h_87 h_88 h_93 h_449 h_450 h_452 h_453 h_454 h_455 h_456 h_457 h_458 h_459 h_460 h_461 h_462 h_463 h_464 h_465 h_466 h_467 h_469 h_482 h_527 h_480; omega) | omega) (by first | (clear ha2 hq0 hq1 hq2 hq3 hq8 h_3 h_4 h_5 h_6 h_7 h_8 h_9 h_11 h_65 h_66 h_70 h_75 h_76 h_81 h_82 h_87 h_88 h_93 h_449 h_450 h_452 h_453 h_454 h_455 h_456 h_457 h_458 h_459 h_460 h_461 h_462 h_463 h_464 h_465 h_466 h_467 h_469 h_482 h_484 h_524 h_525 h_526 h_527 h_480 h_522; omega) | omega) (by first | (clear ha2 hq0 hq1 hq2 hq3 hq4 hq8 h_1 h_2 h_3 h_4 h_5 h_6 h_7 h_8 h_9 h_10 h_11 h_46 h_65 h_66 h_70 h_75 h_76 h_81 h_82 h_87 h_88 h_93 h_449 h_450 h_452 h_453 h_454 h_455 h_456 h_457 h_458 h_459 h_460 h_461 h_462 h_463 h_464 h_465 h_466 h_467 h_469 h_482 h_484 h_523 h_524 h_525 h_526 h_527 h_528 hq6 hq7 h_12 h_21 h_37 h_468 h_480 h_521 h_522; omega) | omega) ((hid kn_529)) ((hid kn_530)) (rfl) (rfl) (rfl) ((hid kn_535)) ((hid kn_540)) ((hid kn_541)) (fun j => ((hF_73 2 j (fun q => q.elim (fun h => absurd h.1 (nn rfl)) (fun q => q.elim (fun h => absurd h.1 (nn rfl)) (fun h => absurd h.1 (nn rfl))))).trans ((hF_64 2 j (fun q => q.elim (fun h => absurd h.1 (nn rfl)) (fun q => q.elim (fun h => absurd h.1 (nn rfl)) (fun h => absurd h.1 (nn rfl))))).trans ((hF_36 2 j (fun h => absurd h.1 (nn rfl))).trans ((hF_26 2 j (fun h => absurd h.1 (nn rfl))).trans (hF_20 2 j (fun h => absurd h.1 (nn rfl))))))).trans (hF j)) (fun j => ((hF_518 43 j (fun q => q.elim (fun h => absurd h.1 (nn rfl)) (fun q => q.elim (fun h => absurd h.1 (nn rfl)) (fun h => absurd h.1 (nn rfl))))).trans ((up_c (nn rfl)).trans ((up_c (nn rfl)).trans ((hF_492 43 j (fun h => absurd h.1 (nn rfl))).trans ((hF_487 43 j (fun h => absurd h.1 (nn rfl))).trans ((hF_477 43 j (fun h => absurd h.1 (nn rfl))).trans (hF_472 43 j (fun h => absurd h.1 (nn rfl))))))))).trans (hH j)) hU hR_520 (ce_le hA_542 (by omega)) hG_80 (fun c_543 hI_544 hF_545 hR_547 h_548 h_549 hA_550 => ?_))
                refine bk_inl ?_
                have h_551 := ir_41_29 hI_544
                have h_552 := ir_p7_5 hI_78 hA
                have h_553 := ir_1_2 hI_78
                have h_554 := ir_41_7 hI_544
                refine q_aload_n rfl rfl ?_
                refine v_bip rfl (by decide) ?_
                have h_555 := ir_41_5 hI_544
                have h_556 := ir_1_5 hI_78
                have h_557 := ir_41_4 hI_544
                have h_558 := ir_41_6 hI_544
                have h_559 := rt_ok hR_547 (by omega)
                have hro_hR_547 := rt_ok hR_547 (by omega)
                have kn_560 : Hid (c_77 1 1 = e1) := (hF_79 1 1 (fun q => q.elim (fun h => absurd h.2 (ni rfl)) (fun q => q.elim (fun h => absurd h.2 (ni rfl)) (fun q => q.elim (fun h => absurd h.2 (ni rfl)) (fun q => q.elim (fun h => absurd h.1 (pn hA rfl rfl)) (fun h => absurd h (pn hA rfl rfl))))))).trans (hid kn_529)
                have kn_561 : Hid (c_543 41 3 = e1) := (hF_545 41 3 (fun q => q.elim (fun h => absurd h.2 (ni rfl)) (fun q => q.elim (fun h => absurd h.2 (ni rfl)) (fun q => q.elim (fun h => absurd h.2 (ni rfl)) (fun q => q.elim (fun h => absurd h.2 (ni rfl)) (fun q => q.elim (fun h => absurd h.2 (ni rfl)) (fun q => q.elim (fun h => absurd h (nn rfl)) (fun h => absurd h (nn rfl))))))))).trans (hid kn_530)
                refine v_cv rfl rfl rfl rfl (by decide) ⟨⟨rfl, rfl⟩, by decide, rfl⟩ (Nat.le_of_ble_eq_true rfl) (Nat.le_of_ble_eq_true rfl) (L_11_4 (m := c_77) (e1 := e1) (a9 := c_77 1 2) (f0 := c_77 1 4) (F := F) (H := H) hI_544 hI_78 hI_84 ((hid kn_560)) ((hid kn_561)) (rfl) (rfl) (fun j => ((hF_79 2 j (fun q => q.elim (fun h => absurd h.1 (nn rfl)) (fun q => q.elim (fun h => absurd h.1 (nn rfl)) (fun q => q.elim (fun h => absurd h.1 (nn rfl)) (fun q => q.elim (fun h => absurd h.1 (pn hA rfl rfl)) (fun h => absurd h (pn hA rfl rfl))))))).trans ((hF_73 2 j (fun q => q.elim (fun h => absurd h.1 (nn rfl)) (fun q => q.elim (fun h => absurd h.1 (nn rfl)) (fun h => absurd h.1 (nn rfl))))).trans ((hF_64 2 j (fun q => q.elim (fun h => absurd h.1 (nn rfl)) (fun q => q.elim (fun h => absurd h.1 (nn rfl)) (fun h => absurd h.1 (nn rfl))))).trans ((hF_36 2 j (fun h => absurd h.1 (nn rfl))).trans ((hF_26 2 j (fun h => absurd h.1 (nn rfl))).trans (hF_20 2 j (fun h => absurd h.1 (nn rfl)))))))).trans (hF j)) (fun j => ((hF_545 43 j (fun q => q.elim (fun h => absurd h.1 (nn rfl)) (fun q => q.elim (fun h => absurd h.1 (nn rfl)) (fun q => q.elim (fun h => absurd h.1 (nn rfl)) (fun q => q.elim (fun h => absurd h.1 (nn rfl)) (fun q => q.elim (fun h => absurd h.1 (nn rfl)) (fun q => q.elim (fun h => absurd h (nn rfl)) (fun h => absurd h (nn rfl))))))))).trans ((hF_518 43 j (fun q => q.elim (fun h => absurd h.1 (nn rfl)) (fun q => q.elim (fun h => absurd h.1 (nn rfl)) (fun h => absurd h.1 (nn rfl))))).trans ((up_c (nn rfl)).trans ((up_c (nn rfl)).trans ((hF_492 43 j (fun h => absurd h.1 (nn rfl))).trans ((hF_487 43 j (fun h => absurd h.1 (nn rfl))).trans ((hF_477 43 j (fun h => absurd h.1 (nn rfl))).trans (hF_472 43 j (fun h => absurd h.1 (nn rfl)))))))))).trans (hH j)) hU hR_547 hG_86 (fun c_562 hI_563 hF_564 hR_566 h_567 h_568 => ?_))
                refine bk_inl ?_
                have h_569 := ir_1_2 hI_84
                refine q_aload_n rfl rfl ?_
                have h_570 := ir_41_5 hI_563
                have h_571 := ir_1_5 hI_84
                have h_572 := ir_41_4 hI_563
                have h_573 := ir_41_6 hI_563
                have h_574 := rt_ok hR_566 (by omega)
                have hro_hR_566 := rt_ok hR_566 (by omega)
                have kn_575 : Hid (c_83 1 1 = e1) := (hF_85 1 1 (fun q => q.elim (fun h => absurd h.2 (ni rfl)) (fun q => q.elim (fun h => absurd h.2 (ni rfl)) (fun h => absurd h.2 (ni rfl))))).trans (hid kn_560)
                have kn_576 : Hid (c_562 41 3 = e1) := (hF_564 41 3 (fun q => q.elim (fun h => absurd h.2 (ni rfl)) (fun q => q.elim (fun h => absurd h.2 (ni rfl)) (fun h => absurd h.2 (ni rfl))))).trans (hid kn_561)
                have kn_577 : Hid (c_83 (A + 7) 5 = c_77 (A + 7) 5) := hF_85 (A + 7) 5 (fun q => q.elim (fun h => absurd h.1 (np hA rfl rfl)) (fun q => q.elim (fun h => absurd h.1 (np hA rfl rfl)) (fun h => absurd h.1 (np hA rfl rfl))))
                have kn_578 : Hid (c_562 41 29 = c_543 41 29) := hF_564 41 29 (fun q => q.elim (fun h => absurd h.2 (ni rfl)) (fun q => q.elim (fun h => absurd h.2 (ni rfl)) (fun h => absurd h.2 (ni rfl))))
                have kn_579 : Hid (c_562 41 7 = c_543 41 7) := hF_564 41 7 (fun q => q.elim (fun h => absurd h.2 (ni rfl)) (fun q => q.elim (fun h => absurd h.2 (ni rfl)) (fun h => absurd h.2 (ni rfl))))
                have hA_580 : Ce (c_543 41 29) (c_83 (A + 9)) (c_562 50) (c_562 51) := ce_fr (hA_550 (by omega)) (fun j => hF_85 (A + 9) j (fun q => q.elim (fun h => absurd h.1 (np hA rfl rfl)) (fun q => q.elim (fun h => absurd h.1 (np hA rfl rfl)) (fun h => absurd h.1 (np hA rfl rfl))))) (fun j => hF_564 50 j (fun q => q.elim (fun h => absurd h.1 (nn rfl)) (fun q => q.elim (fun h => absurd h.1 (nn rfl)) (fun h => absurd h.1 (nn rfl))))) (fun j => hF_564 51 j (fun q => q.elim (fun h => absurd h.1 (nn rfl)) (fun q => q.elim (fun h => absurd h.1 (nn rfl)) (fun h => absurd h.1 (nn rfl)))))
                have hA_581 : Ce (c_77 (A + 7) 5) (c_83 (A + 9)) (c_562 50) (c_562 51) := ce_le hA_580 (by omega)
                refine v_cv rfl rfl rfl rfl (by decide) ⟨⟨rfl, rfl⟩, by decide, rfl⟩ (Nat.le_of_ble_eq_true rfl) (Nat.le_of_ble_eq_true rfl) (H13 (m := c_83) (e1 := e1) (f0 := c_83 1 4) (g0 := c_83 1 5) (p0 := c_83 1 2) (n0 := c_77 (A + 7) 5) (o0 := c_543 41 7) (by omega) (by omega) hI_563 hI_84 hI_90 (show 0 ≤ a2 + 1 ∧ a2 + 1 ≤ 6 from ⟨by first | exact rgp_l ha2.1 (by decide) | omega, by first | (clear ha2 hq0 hq1 hq2 hq3 hq4 hq5 hq8 h_1 h_2 h_3 h_4 h_5 h_6 h_7 h_8 h_9 h_10 h_11 h_46 h_65 h_66 h_75 h_76 h_81 h_82 h_87 h_88 h_93 h_449 h_450 h_452 h_453 h_454 h_455 h_456 h_457 h_458 h_459 h_460 h_461 h_462 h_463 h_464 h_465 h_466 h_467 h_469 h_482 h_484 h_523 h_524 h_525 h_526 h_527 h_528 h_551 h_552 h_553 h_554 h_549 h_555 h_556 h_557 h_558 h_559 h_569 h_570 h_571 h_572 h_573 h_574 hq6 hq7 h_12 h_21 h_37 h_468 h_480 h_521 h_522 h_548 h_567 h_568; omega) | omega⟩) (by first | (clear ha2 hq0 hq1 hq2 hq3 hq4 hq5 hq8 h_1 h_2 h_3 h_4 h_5 h_6 h_7 h_8 h_9 h_10 h_11 h_46 h_65 h_66 h_70 h_75 h_76 h_81 h_82 h_93 h_449 h_450 h_452 h_453 h_454 h_455 h_456 h_457 h_458 h_459 h_460 h_461 h_462 h_463 h_464 h_465 h_466 h_467 h_469 h_482 h_484 h_523 h_524 h_525 h_526 h_527 h_528 h_551 h_552 h_553 h_554 h_549 h_555 h_556 h_557 h_558 h_559 h_569 h_570 h_571 h_572 h_573 h_574 hq6 hq7 h_12 h_21 h_37 h_468 h_480 h_521 h_522 h_548 h_567 h_568; omega) | omega) (by first | (clear ha2 hq0 hq1 hq2 hq3 hq4 hq5 hq8 h_1 h_2 h_3 h_4 h_5 h_6 h_7 h_8 h_9 h_10 h_11 h_46 h_65 h_66 h_70 h_75 h_76 h_81 h_82 h_87 h_88 h_93 h_449 h_450 h_452 h_453 h_454 h_455 h_456 h_457 h_458 h_459 h_460 h_461 h_462 h_463 h_464 h_465 h_466 h_467 h_469 h_482 h_484 h_523 h_524 h_525 h_526 h_527 h_528 h_551 h_552 h_553 h_554 h_549 h_555 h_556 h_557 h_558 h_559 h_569 h_570 h_572 h_573 hq6 hq7 h_12 h_21 h_37 h_468 h_480 h_521 h_522 h_548 h_567 h_568; omega) | omega) (by first | (clear ha2 hq0 hq1 hq2 hq3 hq4 hq5 hq8 h_1 h_2 h_3 h_4 h_5 h_6 h_7 h_8 h_9 h_10 h_11 h_46 h_65 h_66 h_70 h_75 h_76 h_81 h_82 h_87 h_88 h_93 h_449 h_450 h_452 h_453 h_454 h_455 h_456 h_457 h_458 h_459 h_460 h_461 h_462 h_463 h_464 h_465 h_466 h_467 h_469 h_482 h_484 h_523 h_524 h_525 h_526 h_527 h_528 h_551 h_552 h_553 h_554 h_555 h_556 h_557 h_558 h_559 h_569 h_570 h_571 h_572 h_573 h_574 hq6 hq7 h_12 h_21 h_37 h_468 h_480 h_521 h_522 h_548 h_567 h_568; omega) | omega) (by first | (clear ha2 hq0 hq1 hq2 hq8 h_3 h_4 h_5 h_8 h_9 h_11 h_65 h_66 h_70 h_75 h_76 h_93 h_449 h_450 h_452 h_453 h_454 h_455 h_456 h_457 h_458 h_459 h_460 h_461 h_462 h_463 h_464 h_465 h_466 h_467 h_469 h_482 h_484 h_524 h_525 h_526 h_527 h_554 h_549 h_555 h_556 h_557 h_558 h_573 h_480 h_522; omega) | omega) (by first | (clear ha2 hq0 hq1 hq2 hq3 hq8 h_3 h_4 h_5 h_6 h_7 h_8 h_9 h_11 h_65 h_66 h_70 h_75 h_76 h_81 h_82 h_87 h_88 h_93 h_449 h_450 h_452 h_453 h_454 h_455 h_456 h_457 h_458 h_459 h_460 h_461 h_462 h_463 h_464 h_465 h_466 h_467 h_469 h_482 h_484 h_523 h_524 h_525 h_526 h_527 h_528 h_551 h_552 h_553 h_554 h_549 h_555 h_556 h_557 h_558 h_559 h_570 h_571 h_572 h_573 h_480 h_522 h_568; omega) | omega) (by first | (clear ha2 hq0 hq1 hq2 hq3 hq4 hq8 h_1 h_2 h_3 h_4 h_5 h_6 h_7 h_8 h_9 h_10 h_11 h_46 h_65 h_66 h_70 h_75 h_76 h_81 h_82 h_87 h_88 h_93 h_449 h_450 h_452 h_453 h_454 h_455 h_456 h_457 h_458 h_459 h_460 h_461 h_462 h_463 h_464 h_465 h_466 h_467 h_469 h_482 h_484 h_523 h_524 h_525 h_526 h_527 h_528 h_551 h_552 h_553 h_554 h_549 h_555 h_556 h_557 h_558 h_559 h_569 h_570 h_571 h_572 h_573 h_574 hq6 hq7 h_12 h_21 h_37 h_468 h_480 h_521 h_522 h_548 h_567 h_568; omega) | omega) ((hid kn_575)) ((hid kn_576)) (rfl) (rfl) (rfl) ((hid kn_577)) (((show _ = c_543 41 29 from (hid kn_578)).trans (by omega))) ((hid kn_579)) (fun j => ((hF_85 2 j (fun q => q.elim (fun h => absurd h.1 (nn rfl)) (fun q => q.elim (fun h => absurd h.1 (nn rfl)) (fun h => absurd h.1 (nn rfl))))).trans ((hF_79 2 j (fun q => q.elim (fun h => absurd h.1 (nn rfl)) (fun q => q.elim (fun h => absurd h.1 (nn rfl)) (fun q => q.elim (fun h => absurd h.1 (nn rfl)) (fun q => q.elim (fun h => absurd h.1 (pn hA rfl rfl)) (fun h => absurd h (pn hA rfl rfl))))))).trans ((hF_73 2 j (fun q => q.elim (fun h => absurd h.1 (nn rfl)) (fun q => q.elim (fun h => absurd h.1 (nn rfl)) (fun h => absurd h.1 (nn rfl))))).trans ((hF_64 2 j (fun q => q.elim (fun h => absurd h.1 (nn rfl)) (fun q => q.elim (fun h => absurd h.1 (nn rfl)) (fun h => absurd h.1 (nn rfl))))).trans ((hF_36 2 j (fun h => absurd h.1 (nn rfl))).trans ((hF_26 2 j (fun h => absurd h.1 (nn rfl))).trans (hF_20 2 j (fun h => absurd h.1 (nn rfl))))))))).trans (hF j)) (fun j => ((hF_564 43 j (fun q => q.elim (fun h => absurd h.1 (nn rfl)) (fun q => q.elim (fun h => absurd h.1 (nn rfl)) (fun h => absurd h.1 (nn rfl))))).trans ((hF_545 43 j (fun q => q.elim (fun h => absurd h.1 (nn rfl)) (fun q => q.elim (fun h => absurd h.1 (nn rfl)) (fun q => q.elim (fun h => absurd h.1 (nn rfl)) (fun q => q.elim (fun h => absurd h.1 (nn rfl)) (fun q => q.elim (fun h => absurd h.1 (nn rfl)) (fun q => q.elim (fun h => absurd h (nn rfl)) (fun h => absurd h (nn rfl))))))))).trans ((hF_518 43 j (fun q => q.elim (fun h => absurd h.1 (nn rfl)) (fun q => q.elim (fun h => absurd h.1 (nn rfl)) (fun h => absurd h.1 (nn rfl))))).trans ((up_c (nn rfl)).trans ((up_c (nn rfl)).trans ((hF_492 43 j (fun h => absurd h.1 (nn rfl))).trans ((hF_487 43 j (fun h => absurd h.1 (nn rfl))).trans ((hF_477 43 j (fun h => absurd h.1 (nn rfl))).trans (hF_472 43 j (fun h => absurd h.1 (nn rfl))))))))))).trans (hH j)) hU hR_566 (ce_le hA_581 (by omega)) hG_92 (fun c_582 hI_583 hF_584 hR_586 h_587 h_588 hA_589 => ?_))
                refine bk_inl ?_
                have h_590 := ir_41_29 hI_583
                have h_591 := ir_41_7 hI_583
                refine q_aload_n rfl rfl ?_
                refine v_bip rfl (by decide) ?_
                have h_592 := ir_41_5 hI_583
                have h_593 := ir_41_4 hI_583
                have h_594 := ir_41_6 hI_583
                have h_595 := rt_bad hR_586 (by omega)
                have hrb_hR_586 := rt_bad hR_586 (by omega)
                refine v_cv rfl rfl rfl rfl (by decide) ⟨⟨rfl, rfl⟩, by decide, rfl⟩ (Nat.le_of_ble_eq_true rfl) (Nat.le_of_ble_eq_true rfl) ?_
                refine q_aload_n rfl rfl ?_
                refine v_cv rfl rfl rfl rfl (by decide) ⟨⟨rfl, rfl⟩, by decide, rfl⟩ (Nat.le_of_ble_eq_true rfl) (Nat.le_of_ble_eq_true rfl) ?_
                refine q_aload_n rfl rfl ?_
                refine v_gi (z := 5) (v := c_89 1 5) rfl rfl rfl (by decide) rfl rfl hrb_hR_586.2.1 ?_
                refine q_iconst rfl ?_
                refine v_ic_ne_t (t := 12) rfl (by decide) ⟨by first | (clear ha2 hq0 hq1 hq2 hq3 hq4 hq5 hq8 h_1 h_2 h_3 h_4 h_5 h_6 h_7 h_8 h_9 h_10 h_11 h_46 h_65 h_66 h_70 h_75 h_76 h_81 h_82 h_87 h_88 h_93 h_449 h_450 h_452 h_453 h_454 h_455 h_456 h_457 h_458 h_459 h_460 h_461 h_462 h_463 h_464 h_465 h_466 h_467 h_469 h_482 h_484 h_523 h_524 h_525 h_526 h_527 h_528 h_551 h_552 h_553 h_554 h_549 h_555 h_556 h_557 h_558 h_559 h_569 h_570 h_571 h_572 h_573 h_574 h_590 h_591 h_588 h_592 h_593 h_594 hq6 hq7 h_12 h_21 h_37 h_468 h_480 h_521 h_522 h_548 h_567 h_568 h_587; omega) | omega, ⟨(Int.le_trans (by decide) h_457.1), (Int.le_trans h_457.2 (by decide))⟩, by decide, by decide⟩ ?_
                refine q_iconst rfl ?_
                refine v_zret rfl rfl (by decide) ?_
                refine bk_inl ?_
                refine v_if_eq_t (t := 24) rfl (by decide) (by decide) ?_
                refine q_aload_n rfl rfl ?_
                refine v_cv rfl rfl rfl rfl (by decide) ⟨⟨rfl, rfl⟩, by decide, rfl⟩ (Nat.le_of_ble_eq_true rfl) (Nat.le_of_ble_eq_true rfl) ?_
                refine q_aload_n rfl rfl ?_
                refine v_gi (z := 5) (v := c_89 1 5) rfl rfl rfl (by decide) rfl rfl hrb_hR_586.2.1 ?_
                refine q_iconst rfl ?_
                refine v_ic_ne_t (t := 12) rfl (by decide) ⟨by first | (clear ha2 hq0 hq1 hq2 hq3 hq4 hq5 hq8 h_1 h_2 h_3 h_4 h_5 h_6 h_7 h_8 h_9 h_10 h_11 h_46 h_65 h_66 h_70 h_75 h_76 h_81 h_82 h_87 h_88 h_93 h_449 h_450 h_452 h_453 h_454 h_455 h_456 h_457 h_458 h_459 h_460 h_461 h_462 h_463 h_464 h_465 h_466 h_467 h_469 h_482 h_484 h_523 h_524 h_525 h_526 h_527 h_528 h_551 h_552 h_553 h_554 h_549 h_555 h_556 h_557 h_558 h_559 h_569 h_570 h_571 h_572 h_573 h_574 h_590 h_591 h_588 h_592 h_593 h_594 hq6 hq7 h_12 h_21 h_37 h_468 h_480 h_521 h_522 h_548 h_567 h_568 h_587; omega) | omega, ⟨(Int.le_trans (by decide) h_457.1), (Int.le_trans h_457.2 (by decide))⟩, by decide, by decide⟩ ?_
                refine q_iconst rfl ?_
                refine v_zret rfl rfl (by decide) ?_
                refine bk_inl ?_
                refine v_if_eq_t (t := 41) rfl (by decide) (by decide) ?_
                refine q_vret rfl rfl ?_
                refine bk_inl ?_
                refine q_aload_n rfl rfl ?_
                refine q_dup rfl rfl ?_
                refine v_gi (z := 7) (v := c_582 41 7) rfl rfl rfl (by decide) rfl rfl rfl ?_
                refine q_iconst rfl ?_
                refine v_isub (v := c_582 41 7 - 1) rfl rfl ?_
                refine v_pi (z := 7) rfl rfl rfl (by decide) rfl rfl rfl (by decide) ?_
                refine q_aload_n rfl rfl ?_
                refine q_iload_n rfl rfl ?_
                refine q_iconst rfl ?_
                refine v_cv rfl rfl rfl rfl (by decide) ⟨⟨rfl, rfl⟩, by decide, rfl⟩ (Nat.le_of_ble_eq_true rfl) (Nat.le_of_ble_eq_true rfl) ?_
                refine q_aload_n rfl rfl ?_
                refine v_cv rfl rfl rfl rfl (by decide) ⟨⟨rfl, rfl⟩, by decide, rfl⟩ (Nat.le_of_ble_eq_true rfl) (Nat.le_of_ble_eq_true rfl) ?_
                refine q_aload_n rfl rfl ?_
                refine v_gi (z := 5) (v := c_89 1 5) rfl rfl rfl (by decide) rfl rfl (((up_n (by decide))).trans (hrb_hR_586.2.1)) ?_
                refine q_iconst rfl ?_
                refine v_ic_ne_t (t := 12) rfl (by decide) ⟨by first | (clear ha2 hq0 hq1 hq2 hq3 hq4 hq5 hq8 h_1 h_2 h_3 h_4 h_5 h_6 h_7 h_8 h_9 h_10 h_11 h_46 h_65 h_66 h_70 h_75 h_76 h_81 h_82 h_87 h_88 h_93 h_449 h_450 h_452 h_453 h_454 h_455 h_456 h_457 h_458 h_459 h_460 h_461 h_462 h_463 h_464 h_465 h_466 h_467 h_469 h_482 h_484 h_523 h_524 h_525 h_526 h_527 h_528 h_551 h_552 h_553 h_554 h_549 h_555 h_556 h_557 h_558 h_559 h_569 h_570 h_571 h_572 h_573 h_574 h_590 h_591 h_588 h_592 h_593 h_594 hq6 hq7 h_12 h_21 h_37 h_468 h_480 h_521 h_522 h_548 h_567 h_568 h_587; omega) | omega, ⟨(Int.le_trans (by decide) h_457.1), (Int.le_trans h_457.2 (by decide))⟩, by decide, by decide⟩ ?_
                refine q_iconst rfl ?_
                refine v_zret rfl rfl (by decide) ?_
                refine bk_inl ?_
                refine v_if_ne_f (t := 8) rfl (by decide) (by decide) ?_
                refine q_vret rfl rfl ?_
                refine bk_inl ?_
                refine q_vret rfl rfl ?_
                refine bk_inl ?_
                refine q_goto (t := 154) rfl (by decide) ?_
                refine q_vret rfl rfl ?_
                have hI_596 := iw_41_7 (v := c_582 41 7 - 1) hI_583 ⟨by first | (clear hq0 hq1 hq2 hq3 hq4 hq5 hq8 h_1 h_2 h_3 h_4 h_5 h_6 h_7 h_8 h_9 h_10 h_11 h_46 h_65 h_66 h_70 h_75 h_76 h_81 h_82 h_87 h_88 h_93 h_449 h_450 h_452 h_453 h_454 h_455 h_456 h_457 h_458 h_459 h_460 h_461 h_462 h_463 h_464 h_465 h_466 h_467 h_469 h_482 h_484 h_523 h_524 h_525 h_526 h_527 h_528 h_551 h_552 h_553 h_554 h_549 h_555 h_556 h_557 h_558 h_559 h_569 h_570 h_571 h_572 h_573 h_574 h_590 h_591 h_592 h_593 h_594 h_595 hq6 hq7 h_12 h_21 h_37 h_468 h_480 h_521 h_522 h_548 h_567 h_568 h_587; omega) | omega, by first | exact rgm_h h_591.2 (by decide) | omega⟩
                have h_597 : (up c_582 41 7 (c_582 41 7 - 1)) 41 5 = c_89 1 5 := (((up_n (by decide))).trans (hrb_hR_586.2.1))
                have h_598 : (up c_582 41 7 (c_582 41 7 - 1)) 41 4 = c_582 41 4 := (up_n (by decide))
                have h_599 : (up c_582 41 7 (c_582 41 7 - 1)) 41 6 = c_89 1 4 := (((up_n (by decide))).trans (hrb_hR_586.2.2.2))
                have h_600 : (up c_582 41 7 (c_582 41 7 - 1)) 41 29 = c_582 41 29 := (up_n (by decide))
                have h_601 : (up c_582 41 7 (c_582 41 7 - 1)) 41 7 = c_582 41 7 - 1 := (up_e rfl)
                have h_602 : (up c_582 41 7 (c_582 41 7 - 1)) 41 29 = c_582 41 29 := (up_n (by decide))
                exact K (up c_582 41 7 (c_582 41 7 - 1))  hI_596 (fun a j hm => (up_b (Decidable.or_iff_not_imp_left.mpr (fun h1 h2 => hm (Or.inr (Or.inr (Or.inr (Or.inl ⟨Decidable.not_not.mp h1, h2⟩))))))).trans ((hF_584 a j (fun q => q.elim (fun h => hm (Or.inl h)) (fun q => q.elim (fun h => hm (Or.inr (Or.inl h))) (fun q => q.elim (fun h => hm (Or.inr (Or.inr (Or.inl h)))) (fun q => q.elim (fun h => hm (Or.inr (Or.inr (Or.inr (Or.inl h))))) (fun q => q.elim (fun h => hm (Or.inr (Or.inr (Or.inr (Or.inr (Or.inl h)))))) (fun q => q.elim (fun h => hm (Or.inr (Or.inr (Or.inr (Or.inr (Or.inr (Or.inl h))))))) (fun h => hm (Or.inr (Or.inr (Or.inr (Or.inr (Or.inr (Or.inr h)))))))))))))).trans ((hF_564 a j (fun q => q.elim (fun h => hm (Or.inl h)) (fun q => q.elim (fun h => hm (Or.inr (Or.inl h))) (fun h => hm (Or.inr (Or.inr (Or.inl h))))))).trans ((hF_545 a j (fun q => q.elim (fun h => hm (Or.inl h)) (fun q => q.elim (fun h => hm (Or.inr (Or.inl h))) (fun q => q.elim (fun h => hm (Or.inr (Or.inr (Or.inl h)))) (fun q => q.elim (fun h => hm (Or.inr (Or.inr (Or.inr (Or.inl h))))) (fun q => q.elim (fun h => hm (Or.inr (Or.inr (Or.inr (Or.inr (Or.inl h)))))) (fun q => q.elim (fun h => hm (Or.inr (Or.inr (Or.inr (Or.inr (Or.inr (Or.inl h))))))) (fun h => hm (Or.inr (Or.inr (Or.inr (Or.inr (Or.inr (Or.inr h)))))))))))))).trans ((hF_518 a j (fun q => q.elim (fun h => hm (Or.inl h)) (fun q => q.elim (fun h => hm (Or.inr (Or.inl h))) (fun h => hm (Or.inr (Or.inr (Or.inl h))))))).trans ((up_b (Decidable.or_iff_not_imp_left.mpr (fun h1 h2 => hm (Or.inr (Or.inr (Or.inr (Or.inl ⟨Decidable.not_not.mp h1, h2⟩))))))).trans ((up_b (Decidable.or_iff_not_imp_left.mpr (fun h1 h2 => hm (Or.inl ⟨Decidable.not_not.mp h1, h2⟩)))).trans ((hF_492 a j (fun h => hm (Or.inl h))).trans ((hF_487 a j (fun h => hm (Or.inl h))).trans ((hF_477 a j (fun h => hm (Or.inl h))).trans (hF_472 a j (fun h => hm (Or.inl h))))))))))))) (rt_i2 ⟨⟨by first | (clear ha2 hq0 hq1 hq2 hq3 hq4 hq5 hq8 h_1 h_2 h_3 h_4 h_5 h_6 h_7 h_8 h_9 h_10 h_11 h_46 h_65 h_66 h_70 h_75 h_76 h_81 h_82 h_87 h_88 h_93 h_449 h_450 h_452 h_454 h_455 h_456 h_457 h_458 h_459 h_460 h_461 h_462 h_463 h_464 h_465 h_466 h_467 h_469 h_482 h_484 h_523 h_524 h_525 h_526 h_527 h_528 h_551 h_552 h_553 h_554 h_549 h_555 h_556 h_557 h_558 h_559 h_569 h_570 h_571 h_572 h_573 h_574 h_590 h_591 h_588 h_592 h_593 h_594 hq6 hq7 h_12 h_21 h_37 h_468 h_480 h_521 h_522 h_548 h_567 h_568 h_587; omega) | omega, by first | (clear ha2 hq0 hq1 hq2 hq3 hq4 hq5 hq8 h_1 h_2 h_3 h_4 h_5 h_6 h_7 h_8 h_9 h_10 h_11 h_46 h_65 h_66 h_70 h_75 h_76 h_81 h_82 h_87 h_88 h_93 h_449 h_450 h_453 h_454 h_455 h_456 h_457 h_458 h_459 h_460 h_461 h_462 h_463 h_464 h_465 h_466 h_467 h_469 h_482 h_484 h_523 h_524 h_525 h_526 h_527 h_528 h_551 h_552 h_553 h_554 h_549 h_555 h_556 h_557 h_558 h_559 h_569 h_570 h_571 h_572 h_573 h_574 h_590 h_591 h_588 h_592 h_593 h_594 h_595 hq6 hq7 h_12 h_21 h_37 h_468 h_480 h_521 h_522 h_548 h_567 h_568 h_587; omega) | omega⟩, by first | (clear ha2 hq0 hq1 hq2 hq3 hq4 hq5 hq8 h_1 h_2 h_3 h_4 h_5 h_6 h_7 h_8 h_9 h_10 h_11 h_46 h_65 h_66 h_70 h_75 h_76 h_81 h_82 h_87 h_88 h_93 h_449 h_450 h_452 h_453 h_454 h_455 h_456 h_457 h_458 h_460 h_461 h_462 h_463 h_464 h_465 h_466 h_467 h_469 h_482 h_484 h_523 h_524 h_525 h_526 h_527 h_528 h_551 h_552 h_553 h_554 h_549 h_555 h_556 h_557 h_558 h_559 h_569 h_570 h_571 h_572 h_573 h_574 h_590 h_591 h_588 h_592 h_593 h_594 h_595 hq6 hq7 h_12 h_21 h_37 h_468 h_480 h_521 h_522 h_548 h_567 h_568 h_587; omega) | omega, by first | (clear ha2 hq0 hq1 hq2 hq3 hq4 hq5 hq8 h_1 h_2 h_3 h_4 h_5 h_6 h_7 h_8 h_9 h_10 h_11 h_46 h_65 h_66 h_70 h_75 h_76 h_81 h_82 h_87 h_88 h_93 h_449 h_450 h_452 h_453 h_454 h_455 h_456 h_457 h_458 h_460 h_461 h_462 h_463 h_464 h_465 h_466 h_467 h_469 h_482 h_484 h_523 h_524 h_525 h_526 h_527 h_528 h_551 h_552 h_553 h_554 h_549 h_555 h_556 h_557 h_558 h_559 h_569 h_570 h_571 h_572 h_573 h_574 h_590 h_591 h_588 h_592 h_593 h_594 hq6 hq7 h_12 h_21 h_37 h_468 h_480 h_521 h_522 h_548 h_567 h_568 h_587; omega) | omega, by first | (clear ha2 hq0 hq1 hq2 hq3 hq4 hq5 hq8 h_1 h_2 h_3 h_4 h_5 h_6 h_7 h_8 h_9 h_10 h_11 h_46 h_65 h_66 h_70 h_75 h_76 h_81 h_82 h_87 h_88 h_93 h_449 h_450 h_452 h_454 h_455 h_456 h_457 h_458 h_459 h_460 h_461 h_462 h_463 h_464 h_465 h_466 h_467 h_469 h_482 h_484 h_523 h_524 h_525 h_526 h_527 h_528 h_551 h_552 h_553 h_554 h_549 h_555 h_556 h_557 h_558 h_559 h_569 h_570 h_571 h_572 h_573 h_574 h_590 h_591 h_588 h_592 h_593 h_594 h_595 hq6 hq7 h_12 h_21 h_37 h_468 h_480 h_521 h_522 h_548 h_567 h_568 h_587; omega) | omega⟩) (Or.inr (Or.inl (by first | (clear ha2 hq0 hq1 hq2 hq3 hq4 hq5 hq8 h_1 h_2 h_3 h_4 h_5 h_6 h_7 h_8 h_9 h_10 h_11 h_46 h_65 h_66 h_70 h_75 h_76 h_81 h_82 h_87 h_88 h_93 h_449 h_450 h_452 h_454 h_455 h_456 h_457 h_458 h_459 h_460 h_461 h_462 h_463 h_464 h_465 h_466 h_467 h_469 h_482 h_484 h_523 h_524 h_525 h_526 h_527 h_528 h_551 h_552 h_553 h_554 h_549 h_555 h_556 h_557 h_558 h_559 h_569 h_570 h_571 h_572 h_573 h_574 h_590 h_591 h_588 h_592 h_593 h_594 hq6 hq7 h_12 h_21 h_37 h_468 h_480 h_521 h_522 h_548 h_567 h_568 h_587; omega) | omega))) (by first | (clear ha2 hq0 hq1 hq2 hq3 hq4 hq5 hq8 h_1 h_2 h_3 h_4 h_5 h_6 h_7 h_8 h_9 h_10 h_11 h_46 h_65 h_66 h_70 h_75 h_76 h_81 h_82 h_87 h_88 h_93 h_449 h_450 h_452 h_453 h_454 h_455 h_456 h_457 h_458 h_459 h_460 h_461 h_462 h_463 h_464 h_465 h_466 h_467 h_469 h_482 h_484 h_523 h_524 h_525 h_526 h_527 h_528 h_551 h_552 h_553 h_554 h_549 h_555 h_556 h_557 h_558 h_559 h_569 h_570 h_571 h_572 h_573 h_574 h_590 h_591 h_592 h_593 h_594 h_595 hq6 hq7 h_12 h_21 h_37 h_468 h_480 h_521 h_522 h_548 h_567 h_568 h_587; omega) | omega) (fun hz => absurd hz (by omega))
              · refine v_ic_ge_f (t := 32) rfl (by decide) ⟨(Int.le_trans (by decide) h_449.1), (Int.not_le.mp h_450), by decide⟩ ?_
                refine q_aload_n rfl rfl ?_
                refine v_gr (t := (A + 9)) rfl rfl (ck_p7 hA) (a68 hA rfl) rfl ?_
                refine q_aload_n rfl rfl ?_
                refine v_gi (z := 5) (v := c_89 (A + 7) 5) rfl rfl (ck_p7 hA) (a68 hA rfl) rfl rfl rfl ?_
                refine q_iload_n rfl rfl ?_
                refine v_is rfl (ck_p9 hA) (a68 hA rfl) (by decide) (by omega) ?_
                refine q_aload_n rfl rfl ?_
                refine q_dup rfl rfl ?_
                refine v_gi (z := 5) (v := c_89 (A + 7) 5) rfl rfl (ck_p7 hA) (a68 hA rfl) rfl rfl (up_c (pp rfl)) ?_
                refine q_iconst rfl ?_
                refine v_iadd (v := c_89 (A + 7) 5 + 1) rfl rfl ?_
                refine v_pi (z := 5) rfl rfl (ck_p7 hA) (a68 hA rfl) rfl rfl rfl (by decide) ?_
                refine q_vret rfl rfl ?_
                refine bk_inl ?_
                refine q_vret rfl rfl ?_
                have hI_603 := iw_lg (j := c_89 (A + 7) 5) (v := (wd1_0 F (nx F e1 p0) (ln F e1 (nx F e1 p0))) + 1997) hI_90 (lgp (k := 9) hA (by decide)) ⟨by omega, by omega⟩ (by omega)
                have hI_604 := iw_p7_5 (v := c_89 (A + 7) 5 + 1) hI_603 hA ⟨by first | exact rgp_l h_449.1 (by decide) | omega, by first | (clear ha2 hq0 hq1 hq2 hq3 hq4 hq5 hq8 h_1 h_2 h_3 h_4 h_5 h_6 h_7 h_8 h_9 h_10 h_11 h_46 h_65 h_66 h_70 h_75 h_76 h_81 h_82 h_87 h_88 h_93 h_449 hq6 hq7 h_12 h_21 h_37; omega) | omega⟩
                intro hE_605
                have hW : Wd P Q P P (up (up c_89 (A + 9) (c_89 (A + 7) 5) ((wd1_0 F (nx F e1 p0) (ln F e1 (nx F e1 p0))) + 1997)) (A + 7) 5 (c_89 (A + 7) 5 + 1)) = Wd P Q P P m9 := (Prod.mk.inj (Prod.mk.inj hE_605).2).1
                have h_606 := ir_1_4 hJ9
                have h_607 : m9 1 4 = c_89 1 4 := wd_fv (z := 4) 4 rfl hW rfl rfl rfl rfl (by decide) ((up_c (pn hA rfl rfl)).trans (up_c (pn hA rfl rfl))) ⟨(Int.le_trans (by decide) h_93.1), (Int.le_trans h_93.2 (by decide))⟩ ⟨(Int.le_trans (by decide) h_606.1), (Int.le_trans h_606.2 (by decide))⟩
                have h_608 := ir_1_2 hI_90
                have h_609 := ir_1_2 hJ9
                have h_610 : m9 1 2 = c_89 1 2 := wd_fv (z := 2) 2 rfl hW rfl rfl rfl rfl (by decide) ((up_c (pn hA rfl rfl)).trans (up_c (pn hA rfl rfl))) ⟨(Int.le_trans (by decide) h_608.1), (Int.le_trans h_608.2 (by decide))⟩ ⟨(Int.le_trans (by decide) h_609.1), (Int.le_trans h_609.2 (by decide))⟩
                have h_611 := ir_1_5 hI_90
                have h_612 := ir_1_5 hJ9
                have h_613 : m9 1 5 = c_89 1 5 := wd_fv (z := 5) 5 rfl hW rfl rfl rfl rfl (by decide) ((up_c (pn hA rfl rfl)).trans (up_c (pn hA rfl rfl))) ⟨(Int.le_trans (by decide) h_611.1), (Int.le_trans h_611.2 (by decide))⟩ ⟨(Int.le_trans (by decide) h_612.1), (Int.le_trans h_612.2 (by decide))⟩
                have h_614 := ir_p7_5 hJ9 hA
                have h_615 : m9 (A + 7) 5 = c_89 (A + 7) 5 + 1 := wd_fv (z := 5) 5 rfl hW (ck_p7 hA) (ck_p7 hA) rfl rfl (by omega) (up_e rfl) ⟨by first | exact rgp_l h_449.1 (by decide) | omega, by first | exact rgp_h h_449.2 (by decide) | omega⟩ ⟨(Int.le_trans (by decide) h_614.1), (Int.le_trans h_614.2 (by decide))⟩
                refine q_aload_n rfl rfl ?_
                refine v_cv rfl rfl rfl rfl (by decide) ⟨⟨rfl, rfl⟩, by decide, rfl⟩ (Nat.le_of_ble_eq_true rfl) (Nat.le_of_ble_eq_true rfl) ?_
                refine q_aload_n rfl rfl ?_
                have h_616 := ir_41_5 hI
                have h_617 := ir_41_4 hI
                have h_618 := ir_41_6 hI
                have h_619 := rt_ok hRt (by omega)
                have hro_hRt := rt_ok hRt (by omega)
                refine v_gi (z := 5) (v := (-1)) rfl rfl rfl (by decide) rfl rfl hro_hRt.2.1 ?_
                refine q_iconst rfl ?_
                refine v_ic_ne_f (t := 12) rfl (by decide) (by decide) ?_
                refine q_iconst rfl ?_
                refine q_goto (t := 13) rfl (by decide) ?_
                refine v_zret rfl rfl (by decide) ?_
                refine bk_inl ?_
                refine v_if_ne_t (t := 8) rfl (by decide) (by decide) ?_
                refine q_aload_n rfl rfl ?_
                have h_620 : -2147483648 ≤ (H (nx F e1 p0)) ∧ (H (nx F e1 p0)) ≤ 2147483647 := by rw [← hH (nx F e1 p0)]; exact ir_43 hI (nx F e1 p0)
                have h_621 := hU (nx F e1 p0) (by omega) (by omega)
                have h_622 := hb_or (b := H) (e := e1) (r := (nx F e1 p0))
                have h_623 := hb_bd (b := H) (e := e1) (r := (nx F e1 p0)) (lo := -2147483648) (hi := 2147483647) h_620 (by decide)
                refine v_cv rfl rfl rfl rfl (by decide) ⟨⟨rfl, rfl⟩, by decide, rfl⟩ (Nat.le_of_ble_eq_true rfl) (Nat.le_of_ble_eq_true rfl) (f_154 (e1 := e1) (a9 := p0) (B := H) (r8 := (nx F e1 p0)) (r := (hb H e1 (nx F e1 p0))) hI ((hr_e1)) (((hro_hRt.2.2.1).trans ((hg_p0)))) (fun j => hH j) ((nx_tr hU (by first | (clear ha2 hq0 hq1 hq2 hq3 hq4 hq5 hq8 h_1 h_2 h_3 h_4 h_6 h_7 h_8 h_9 h_10 h_11 h_46 h_65 h_66 h_70 h_75 h_76 h_81 h_82 h_87 h_88 h_93 h_449 h_606 h_607 h_608 h_609 h_610 h_611 h_612 h_613 h_614 h_615 h_616 h_617 h_618 h_619 hq6 hq7 h_12 h_21 h_37; omega) | omega) (by first | (clear ha2 hq0 hq1 hq2 hq3 hq4 hq8 h_1 h_2 h_3 h_4 h_5 h_6 h_7 h_8 h_9 h_10 h_11 h_46 h_65 h_66 h_70 h_75 h_76 h_81 h_82 h_87 h_88 h_93 h_449 h_606 h_607 h_608 h_609 h_610 h_611 h_612 h_613 h_614 h_615 h_616 h_617 h_618 h_619 hq6 hq7 h_12 h_21 h_37; omega) | omega)).trans (rfl)) rfl (fun c_624 hI_625 hF_626 h_627 => ?_))
                refine bk_inl ?_
                refine v_bip rfl (by decide) ?_
                refine v_ic_ne_t (t := 45) rfl (by decide) ⟨by first | (clear ha2 hq0 hq1 hq2 hq3 hq8 h_3 h_4 h_5 h_6 h_7 h_8 h_9 h_11 h_65 h_66 h_70 h_75 h_76 h_81 h_82 h_87 h_88 h_93 h_449 h_606 h_607 h_608 h_609 h_610 h_611 h_612 h_613 h_614 h_615 h_616 h_617 h_618 h_619; omega) | omega, ⟨h_623.1, h_623.2⟩, by decide, by decide⟩ ?_
                refine q_aload_n rfl rfl ?_
                have kn_628 : Hid (c_624 41 3 = e1) := (hF_626 41 3 (fun h => absurd h.2 (ni rfl))).trans (hr_e1)
                refine v_cv rfl rfl rfl rfl (by decide) ⟨⟨rfl, rfl⟩, by decide, rfl⟩ (Nat.le_of_ble_eq_true rfl) (Nat.le_of_ble_eq_true rfl) (f_154 (e1 := e1) (a9 := (nx F e1 p0)) (B := H) (r8 := (nx F e1 p0)) (r := (hb H e1 (nx F e1 p0))) hI_625 ((hid kn_628)) ((h_627)) (fun j => (hF_626 43 j (fun h => absurd h.1 (nn rfl))).trans (hH j)) ((nx_tr hU (by first | (clear ha2 hq0 hq1 hq2 hq3 hq4 hq5 hq8 h_1 h_2 h_3 h_4 h_6 h_7 h_8 h_9 h_11 h_46 h_65 h_66 h_70 h_75 h_76 h_81 h_82 h_87 h_88 h_93 h_449 h_606 h_607 h_608 h_609 h_610 h_611 h_612 h_613 h_614 h_615 h_616 h_617 h_618 h_619 h_620 h_621 h_623 hq6 hq7 h_12 h_21 h_37 h_622; omega) | omega) (by first | (clear ha2 hq0 hq1 hq2 hq3 hq4 hq8 h_1 h_2 h_3 h_4 h_5 h_6 h_7 h_8 h_9 h_10 h_11 h_46 h_65 h_66 h_70 h_75 h_76 h_81 h_82 h_87 h_88 h_93 h_449 h_606 h_607 h_608 h_609 h_610 h_611 h_612 h_613 h_614 h_615 h_616 h_617 h_618 h_619 h_620 h_621 h_623 hq6 hq7 h_12 h_21 h_37 h_622; omega) | omega)).trans ((nx_z (by omega)))) rfl (fun c_629 hI_630 hF_631 h_632 => ?_))
                refine bk_inl ?_
                refine q_call rfl rfl rfl rfl (f_156 (a0 := (hb H e1 (nx F e1 p0))) hI_630 (show (-2147483648) ≤ (hb H e1 (nx F e1 p0)) ∧ (hb H e1 (nx F e1 p0)) ≤ 2147483647 from h_623) (fun y_633 hy_633 h_634 => ?_))
                refine bk_inl ?_
                refine v_if_eq_t (t := 71) rfl (by decide) (by first | (clear ha2 hq0 hq1 hq2 hq3 hq8 h_3 h_4 h_5 h_6 h_7 h_8 h_9 h_11 h_65 h_66 h_70 h_75 h_76 h_81 h_82 h_87 h_88 h_93 h_449 h_606 h_607 h_608 h_609 h_610 h_611 h_612 h_613 h_614 h_615 h_616 h_617 h_618 h_619; omega) | omega) ?_
                refine q_aload_n rfl rfl ?_
                have kn_635 : Hid (c_629 41 3 = e1) := (hF_631 41 3 (fun h => absurd h.2 (ni rfl))).trans (hid kn_628)
                have h_636 := wv_bd (b := F) (r := (nx F e1 p0)) (l := (ln F e1 (nx F e1 p0))) (fun j h1 h2 => ⟨(ln_in (e := e1) (a := (nx F e1 p0)) h1 h2).1, (ln_in (e := e1) (a := (nx F e1 p0)) h1 h2).2.1⟩)
                have h_637 := wr1_9 (b := F) (r := (nx F e1 p0)) (l := (ln F e1 (nx F e1 p0))) (by omega) (fun j h1 h2 => ⟨(ln_in (e := e1) (a := (nx F e1 p0)) h1 h2).1, (ln_in (e := e1) (a := (nx F e1 p0)) h1 h2).2.1⟩) (by omega)
                have h_638 : (wv F (nx F e1 p0) (ln F e1 (nx F e1 p0))) = 441972 → (ln F e1 (nx F e1 p0)) - (nx F e1 p0) = 4 := wl_most (by omega) (fun j h1 h2 => ⟨(ln_in (e := e1) (a := (nx F e1 p0)) h1 h2).1, (ln_in (e := e1) (a := (nx F e1 p0)) h1 h2).2.1⟩)
                refine v_cv rfl rfl rfl rfl (by decide) ⟨⟨rfl, rfl⟩, by decide, rfl⟩ (Nat.le_of_ble_eq_true rfl) (Nat.le_of_ble_eq_true rfl) (f_157 (e1 := e1) (a9 := (nx F e1 p0)) (B := H) (r8 := (nx F e1 p0)) (L8 := (ln F e1 (nx F e1 p0))) (W8 := (wv F (nx F e1 p0) (ln F e1 (nx F e1 p0)))) hI_630 ((hid kn_635)) ((h_632)) (fun j => ((hF_631 43 j (fun h => absurd h.1 (nn rfl))).trans (hF_626 43 j (fun h => absurd h.1 (nn rfl)))).trans (hH j)) ((nx_tr hU (by first | (clear ha2 hq0 hq1 hq2 hq3 hq4 hq5 hq8 h_1 h_2 h_3 h_4 h_6 h_7 h_8 h_9 h_11 h_46 h_65 h_66 h_70 h_75 h_76 h_81 h_82 h_87 h_88 h_93 h_449 h_606 h_607 h_608 h_609 h_610 h_611 h_612 h_613 h_614 h_615 h_616 h_617 h_618 h_619 h_620 h_621 h_623 hq6 hq7 h_12 h_21 h_37 h_622 h_634; omega) | omega) (by first | (clear ha2 hq0 hq1 hq2 hq3 hq4 hq8 h_1 h_2 h_3 h_4 h_5 h_6 h_7 h_8 h_9 h_10 h_11 h_46 h_65 h_66 h_70 h_75 h_76 h_81 h_82 h_87 h_88 h_93 h_449 h_606 h_607 h_608 h_609 h_610 h_611 h_612 h_613 h_614 h_615 h_616 h_617 h_618 h_619 h_620 h_621 h_623 hq6 hq7 h_12 h_21 h_37 h_622 h_634; omega) | omega)).trans ((nx_z (by omega)))) ((ln_tr hU (by first | (clear ha2 hq0 hq1 hq2 hq3 hq4 hq5 hq8 h_1 h_2 h_3 h_4 h_6 h_7 h_8 h_9 h_11 h_46 h_65 h_66 h_70 h_75 h_76 h_81 h_82 h_87 h_88 h_93 h_449 h_606 h_607 h_608 h_609 h_610 h_611 h_612 h_613 h_614 h_615 h_616 h_617 h_618 h_619 h_620 h_621 h_623 hq6 hq7 h_12 h_21 h_37 h_622 h_634; omega) | omega) (by first | (clear ha2 hq0 hq1 hq2 hq3 hq4 hq8 h_1 h_2 h_3 h_4 h_5 h_6 h_7 h_8 h_9 h_10 h_11 h_46 h_65 h_66 h_70 h_75 h_76 h_81 h_82 h_87 h_88 h_93 h_449 h_606 h_607 h_608 h_609 h_610 h_611 h_612 h_613 h_614 h_615 h_616 h_617 h_618 h_619 h_620 h_621 h_623 hq6 hq7 h_12 h_21 h_37 h_622 h_634; omega) | omega)).trans (rfl)) ((wv_tr hU (by first | (clear ha2 hq0 hq1 hq2 hq3 hq4 hq5 hq8 h_1 h_2 h_3 h_4 h_6 h_7 h_8 h_9 h_11 h_46 h_65 h_66 h_70 h_75 h_76 h_81 h_82 h_87 h_88 h_93 h_449 h_606 h_607 h_608 h_609 h_610 h_611 h_612 h_613 h_614 h_615 h_616 h_617 h_618 h_619 h_620 h_621 h_623 h_636 h_638 hq6 hq7 h_12 h_21 h_37 h_622 h_634; omega) | omega) (by first | (clear ha2 hq0 hq1 hq2 hq3 hq4 hq8 h_1 h_2 h_3 h_4 h_5 h_6 h_7 h_8 h_9 h_10 h_11 h_65 h_66 h_70 h_75 h_76 h_81 h_82 h_87 h_88 h_93 h_449 h_606 h_607 h_608 h_609 h_610 h_611 h_612 h_613 h_614 h_615 h_616 h_617 h_618 h_619 h_620 h_621 h_623 h_636 h_638 hq6 hq7 h_12 h_21 h_37 h_622 h_634; omega) | omega) (fun j h1 h2 => ⟨(ln_in (e := e1) (a := (nx F e1 p0)) h1 h2).1, (ln_in (e := e1) (a := (nx F e1 p0)) h1 h2).2.1⟩)).trans (rfl)) (fun c_639 hI_640 hF_641 hz_642 => ?_))
                refine bk_inl ?_
                refine q_ldc_w_s rfl rfl rfl (by decide) ?_
                refine q_call rfl rfl rfl rfl (s_158_20 ?_)
                refine bk_inl ?_
                refine v_ic_ne_t (t := 94) rfl (by decide) ⟨by first | (clear ha2 hq0 hq1 hq2 hq3 hq4 hq5 hq8 h_1 h_2 h_3 h_4 h_5 h_6 h_7 h_8 h_9 h_10 h_11 h_46 h_65 h_66 h_70 h_75 h_76 h_81 h_82 h_87 h_88 h_93 h_449 h_606 h_607 h_608 h_609 h_610 h_611 h_612 h_613 h_614 h_615 h_616 h_617 h_618 h_619 h_620 h_621 h_623 h_636 hq6 hq7 h_12 h_21 h_37 h_622 h_634; omega) | omega, ⟨(Int.le_trans (by decide) h_636.1), (Int.le_trans h_636.2 (by decide))⟩, by decide, by decide⟩ ?_
                refine q_aload_n rfl rfl ?_
                have kn_643 : Hid (c_639 41 3 = e1) := (hF_641 41 3 (fun h => absurd h.2 (ni rfl))).trans (hid kn_635)
                refine v_cv rfl rfl rfl rfl (by decide) ⟨⟨rfl, rfl⟩, by decide, rfl⟩ (Nat.le_of_ble_eq_true rfl) (Nat.le_of_ble_eq_true rfl) (f_157 (e1 := e1) (a9 := (nx F e1 p0)) (B := H) (r8 := (nx F e1 p0)) (L8 := (ln F e1 (nx F e1 p0))) (W8 := (wv F (nx F e1 p0) (ln F e1 (nx F e1 p0)))) hI_640 ((hid kn_643)) ((hz_642)) (fun j => ((hF_641 43 j (fun h => absurd h.1 (nn rfl))).trans ((hF_631 43 j (fun h => absurd h.1 (nn rfl))).trans (hF_626 43 j (fun h => absurd h.1 (nn rfl))))).trans (hH j)) ((nx_tr hU (by first | (clear ha2 hq0 hq1 hq2 hq3 hq4 hq5 hq8 h_1 h_2 h_3 h_4 h_6 h_7 h_8 h_9 h_11 h_46 h_65 h_66 h_70 h_75 h_76 h_81 h_82 h_87 h_88 h_93 h_449 h_606 h_607 h_608 h_609 h_610 h_611 h_612 h_613 h_614 h_615 h_616 h_617 h_618 h_619 h_620 h_621 h_623 h_636 h_638 hq6 hq7 h_12 h_21 h_37 h_622 h_634; omega) | omega) (by first | (clear ha2 hq0 hq1 hq2 hq3 hq4 hq8 h_1 h_2 h_3 h_4 h_5 h_6 h_7 h_8 h_9 h_10 h_11 h_46 h_65 h_66 h_70 h_75 h_76 h_81 h_82 h_87 h_88 h_93 h_449 h_606 h_607 h_608 h_609 h_610 h_611 h_612 h_613 h_614 h_615 h_616 h_617 h_618 h_619 h_620 h_621 h_623 h_636 h_638 hq6 hq7 h_12 h_21 h_37 h_622 h_634; omega) | omega)).trans ((nx_z (by omega)))) ((ln_tr hU (by first | (clear ha2 hq0 hq1 hq2 hq3 hq4 hq5 hq8 h_1 h_2 h_3 h_4 h_6 h_7 h_8 h_9 h_11 h_46 h_65 h_66 h_70 h_75 h_76 h_81 h_82 h_87 h_88 h_93 h_449 h_606 h_607 h_608 h_609 h_610 h_611 h_612 h_613 h_614 h_615 h_616 h_617 h_618 h_619 h_620 h_621 h_623 h_636 h_638 hq6 hq7 h_12 h_21 h_37 h_622 h_634; omega) | omega) (by first | (clear ha2 hq0 hq1 hq2 hq3 hq4 hq8 h_1 h_2 h_3 h_4 h_5 h_6 h_7 h_8 h_9 h_10 h_11 h_46 h_65 h_66 h_70 h_75 h_76 h_81 h_82 h_87 h_88 h_93 h_449 h_606 h_607 h_608 h_609 h_610 h_611 h_612 h_613 h_614 h_615 h_616 h_617 h_618 h_619 h_620 h_621 h_623 h_636 h_638 hq6 hq7 h_12 h_21 h_37 h_622 h_634; omega) | omega)).trans (rfl)) ((wv_tr hU (by first | (clear ha2 hq0 hq1 hq2 hq3 hq4 hq5 hq8 h_1 h_2 h_3 h_4 h_6 h_7 h_8 h_9 h_11 h_46 h_65 h_66 h_70 h_75 h_76 h_81 h_82 h_87 h_88 h_93 h_449 h_606 h_607 h_608 h_609 h_610 h_611 h_612 h_613 h_614 h_615 h_616 h_617 h_618 h_619 h_620 h_621 h_623 h_636 h_638 hq6 hq7 h_12 h_21 h_37 h_622 h_634; omega) | omega) (by first | (clear ha2 hq0 hq1 hq2 hq3 hq4 hq8 h_1 h_2 h_3 h_4 h_5 h_6 h_7 h_8 h_9 h_10 h_11 h_65 h_66 h_70 h_75 h_76 h_81 h_82 h_87 h_88 h_93 h_449 h_606 h_607 h_608 h_609 h_610 h_611 h_612 h_613 h_614 h_615 h_616 h_617 h_618 h_619 h_620 h_621 h_623 h_636 h_638 hq6 hq7 h_12 h_21 h_37 h_622 h_634; omega) | omega) (fun j h1 h2 => ⟨(ln_in (e := e1) (a := (nx F e1 p0)) h1 h2).1, (ln_in (e := e1) (a := (nx F e1 p0)) h1 h2).2.1⟩)).trans (rfl)) (fun c_644 hI_645 hF_646 hz_647 => ?_))
                refine bk_inl ?_
                refine q_ldc_w_s rfl rfl rfl (by decide) ?_
                refine q_call rfl rfl rfl rfl (s_158_21 ?_)
                refine bk_inl ?_
                refine v_ic_ne_f (t := 117) rfl (by decide) (by first | (clear ha2 hq0 hq1 hq2 hq3 hq4 hq5 hq8 h_1 h_2 h_3 h_4 h_5 h_6 h_7 h_8 h_9 h_10 h_11 h_46 h_65 h_66 h_70 h_75 h_76 h_81 h_82 h_87 h_88 h_93 h_449 h_606 h_607 h_608 h_609 h_610 h_611 h_612 h_613 h_614 h_615 h_616 h_617 h_618 h_619 h_620 h_621 h_623 h_636 hq6 hq7 h_12 h_21 h_37 h_622 h_634; omega) | omega) ?_
                refine q_aload_n rfl rfl ?_
                refine q_iconst rfl ?_
                refine v_bip rfl (by decide) ?_
                refine v_cv rfl rfl rfl rfl (by decide) ⟨⟨rfl, rfl⟩, by decide, rfl⟩ (Nat.le_of_ble_eq_true rfl) (Nat.le_of_ble_eq_true rfl) ?_
                refine q_aload_n rfl rfl ?_
                refine q_iload_n rfl rfl ?_
                refine v_cv rfl rfl rfl rfl (by decide) ⟨⟨rfl, rfl⟩, by decide, rfl⟩ (Nat.le_of_ble_eq_true rfl) (Nat.le_of_ble_eq_true rfl) ?_
                refine q_aload_n rfl rfl ?_
                refine v_cv rfl rfl rfl rfl (by decide) ⟨⟨rfl, rfl⟩, by decide, rfl⟩ (Nat.le_of_ble_eq_true rfl) (Nat.le_of_ble_eq_true rfl) ?_
                refine q_aload_n rfl rfl ?_
                have kn_648 : Hid (c_624 41 5 = (-1)) := (hF_626 41 5 (fun h => absurd h.2 (ni rfl))).trans hro_hRt.2.1
                have kn_649 : Hid (c_629 41 5 = (-1)) := (hF_631 41 5 (fun h => absurd h.2 (ni rfl))).trans (hid kn_648)
                have kn_650 : Hid (c_639 41 5 = (-1)) := (hF_641 41 5 (fun h => absurd h.2 (ni rfl))).trans (hid kn_649)
                have kn_651 : Hid (c_644 41 5 = (-1)) := (hF_646 41 5 (fun h => absurd h.2 (ni rfl))).trans (hid kn_650)
                refine v_gi (z := 5) (v := (-1)) rfl rfl rfl (by decide) rfl rfl (hid kn_651) ?_
                refine q_iconst rfl ?_
                refine v_ic_ne_f (t := 12) rfl (by decide) (by decide) ?_
                refine q_iconst rfl ?_
                refine q_goto (t := 13) rfl (by decide) ?_
                refine v_zret rfl rfl (by decide) ?_
                refine bk_inl ?_
                refine v_if_eq_f (t := 25) rfl (by decide) (by decide) ?_
                refine q_aload_n rfl rfl ?_
                have kn_652 : Hid (c_624 41 7 = o0) := (hF_626 41 7 (fun h => absurd h.2 (ni rfl))).trans (hr_o0)
                have kn_653 : Hid (c_629 41 7 = o0) := (hF_631 41 7 (fun h => absurd h.2 (ni rfl))).trans (hid kn_652)
                have kn_654 : Hid (c_639 41 7 = o0) := (hF_641 41 7 (fun h => absurd h.2 (ni rfl))).trans (hid kn_653)
                have kn_655 : Hid (c_644 41 7 = o0) := (hF_646 41 7 (fun h => absurd h.2 (ni rfl))).trans (hid kn_654)
                refine v_gi (z := 7) (v := o0) rfl rfl rfl (by decide) rfl rfl (hid kn_655) ?_
                refine v_bip rfl (by decide) ?_
                refine v_ic_ne_t (t := 25) rfl (by decide) ⟨by first | (clear ha2 hq0 hq1 hq3 hq4 hq5 hq8 h_1 h_2 h_3 h_4 h_5 h_6 h_7 h_8 h_9 h_10 h_11 h_46 h_65 h_66 h_75 h_76 h_81 h_82 h_87 h_88 h_93 h_449 h_606 h_607 h_608 h_609 h_610 h_611 h_612 h_613 h_614 h_615 h_616 h_617 h_618 h_619 h_620 h_621 h_623 h_636 h_638 hq6 hq7 h_12 h_21 h_37 h_622 h_634; omega) | omega, ⟨(Int.le_trans (by decide) (rg_eq hr_o0 h_8).1), (Int.le_trans (rg_eq hr_o0 h_8).2 (by decide))⟩, by decide, by decide⟩ ?_
                refine q_aload_n rfl rfl ?_
                refine v_cv rfl rfl rfl rfl (by decide) ⟨⟨rfl, rfl⟩, by decide, rfl⟩ (Nat.le_of_ble_eq_true rfl) (Nat.le_of_ble_eq_true rfl) ?_
                refine q_aload_n rfl rfl ?_
                refine v_gi (z := 5) (v := (-1)) rfl rfl rfl (by decide) rfl rfl (hid kn_651) ?_
                refine q_iconst rfl ?_
                refine v_ic_ne_f (t := 12) rfl (by decide) (by decide) ?_
                refine q_iconst rfl ?_
                refine q_goto (t := 13) rfl (by decide) ?_
                refine v_zret rfl rfl (by decide) ?_
                refine bk_inl ?_
                refine v_if_eq_f (t := 42) rfl (by decide) (by decide) ?_
                refine q_aload_n rfl rfl ?_
                refine q_dup rfl rfl ?_
                refine v_gi (z := 4) (v := (nx F e1 p0)) rfl rfl rfl (by decide) rfl rfl (hz_647) ?_
                refine q_iload_n rfl rfl ?_
                refine v_iadd (v := (nx F e1 p0) + 4) rfl rfl ?_
                refine v_pi (z := 4) rfl rfl rfl (by decide) rfl rfl rfl (by decide) ?_
                refine q_aload_n rfl rfl ?_
                refine q_dup rfl rfl ?_
                refine v_gi (z := 7) (v := o0) rfl rfl rfl (by decide) rfl rfl ((up_n (by decide)).trans (hid kn_655)) ?_
                refine q_iconst rfl ?_
                refine v_iadd (v := o0 + 1) rfl rfl ?_
                refine v_pi (z := 7) rfl rfl rfl (by decide) rfl rfl rfl (by decide) ?_
                refine q_vret rfl rfl ?_
                refine bk_inl ?_
                refine q_aload_n rfl rfl ?_
                refine v_bip rfl (by decide) ?_
                have hI_656 := iw_41_4 (v := (nx F e1 p0) + 4) hI_645 ⟨by first | exact rgp_l (rg_be h_10 ((rg_eq hg_p0 h_5).1) ((rg_eq hg_e1 h_1).2)).1 (by decide) | omega, by first | exact rgp_h (rg_be h_10 ((rg_eq hg_p0 h_5).1) ((rg_eq hg_e1 h_1).2)).2 (by decide) | omega⟩
                have hI_657 := iw_41_7 (v := o0 + 1) hI_656 ⟨by first | exact rgp_l (rg_eq hr_o0 h_8).1 (by decide) | omega, by first | (clear ha2 hq0 hq1 hq3 hq4 hq5 hq8 h_1 h_2 h_3 h_4 h_5 h_6 h_7 h_8 h_9 h_10 h_11 h_46 h_65 h_66 h_75 h_76 h_81 h_82 h_87 h_88 h_93 h_449 h_606 h_607 h_608 h_609 h_610 h_611 h_612 h_613 h_614 h_615 h_616 h_617 h_618 h_619 h_620 h_621 h_623 h_636 h_638 hq6 hq7 h_12 h_21 h_37 h_622 h_634; omega) | omega⟩
                have kn_658 : Hid (c_62 1 1 = e1) := (hF_64 1 1 (fun q => q.elim (fun h => absurd h.2 (ni rfl)) (fun q => q.elim (fun h => absurd h.2 (ni rfl)) (fun h => absurd h.2 (ni rfl))))).trans (hid kn_39)
                have kn_659 : Hid (c_644 41 3 = e1) := (hF_646 41 3 (fun h => absurd h.2 (ni rfl))).trans (hid kn_643)
                have h_660 : c_62 1 4 = 0 := (hz_68)
                have h_661 : c_62 1 2 = (ln F e1 (nx F e1 p0)) := (hz_67)
                have h_662 : c_62 1 5 = g0 := (hz_69)
                have h_663 : (up (up c_644 41 4 ((nx F e1 p0) + 4)) 41 7 (o0 + 1)) 41 5 = (-1) := ((up_n (by decide)).trans ((up_n (by decide)).trans (hid kn_651)))
                have h_664 : (up (up c_644 41 4 ((nx F e1 p0) + 4)) 41 7 (o0 + 1)) 41 4 = (nx F e1 p0) + 4 := ((up_n (by decide)).trans (up_e rfl))
                have kn_665 : Hid (c_624 41 6 = c 41 6) := hF_626 41 6 (fun h => absurd h.2 (ni rfl))
                have kn_666 : Hid (c_629 41 6 = c 41 6) := (hF_631 41 6 (fun h => absurd h.2 (ni rfl))).trans (hid kn_665)
                have kn_667 : Hid (c_639 41 6 = c 41 6) := (hF_641 41 6 (fun h => absurd h.2 (ni rfl))).trans (hid kn_666)
                have kn_668 : Hid (c_644 41 6 = c 41 6) := (hF_646 41 6 (fun h => absurd h.2 (ni rfl))).trans (hid kn_667)
                have h_669 : (up (up c_644 41 4 ((nx F e1 p0) + 4)) 41 7 (o0 + 1)) 41 6 = c 41 6 := ((up_n (by decide)).trans ((up_n (by decide)).trans (hid kn_668)))
                refine v_cv rfl rfl rfl rfl (by decide) ⟨⟨rfl, rfl⟩, by decide, rfl⟩ (Nat.le_of_ble_eq_true rfl) (Nat.le_of_ble_eq_true rfl) (L_11_3 (m := c_62) (e1 := e1) (a9 := (ln F e1 (nx F e1 p0))) (f0 := 0) (F := F) (H := H) hI_657 hI_63 hI_72 ((hid kn_658)) (((up_n (by decide)).trans ((up_n (by decide)).trans (hid kn_659)))) ((hz_67)) ((hz_68)) (fun j => ((hF_64 2 j (fun q => q.elim (fun h => absurd h.1 (nn rfl)) (fun q => q.elim (fun h => absurd h.1 (nn rfl)) (fun h => absurd h.1 (nn rfl))))).trans ((hF_36 2 j (fun h => absurd h.1 (nn rfl))).trans ((hF_26 2 j (fun h => absurd h.1 (nn rfl))).trans (hF_20 2 j (fun h => absurd h.1 (nn rfl)))))).trans (hF j)) (fun j => ((up_c (nn rfl)).trans ((up_c (nn rfl)).trans ((hF_646 43 j (fun h => absurd h.1 (nn rfl))).trans ((hF_641 43 j (fun h => absurd h.1 (nn rfl))).trans ((hF_631 43 j (fun h => absurd h.1 (nn rfl))).trans (hF_626 43 j (fun h => absurd h.1 (nn rfl)))))))).trans (hH j)) hU (rt_i1 ⟨by first | (clear ha2 hq0 hq1 hq2 hq3 hq4 hq5 hq8 h_1 h_2 h_3 h_4 h_5 h_6 h_7 h_8 h_9 h_10 h_11 h_46 h_65 h_66 h_70 h_75 h_76 h_81 h_82 h_87 h_88 h_93 h_449 h_606 h_607 h_608 h_609 h_610 h_611 h_612 h_613 h_614 h_615 h_616 h_617 h_618 h_619 h_620 h_621 h_623 h_636 h_638 hq6 hq7 h_12 h_21 h_37 h_622 h_634; omega) | omega, by first | (clear ha2 hq0 hq1 hq2 hq3 hq4 hq5 hq8 h_1 h_2 h_3 h_4 h_5 h_6 h_7 h_8 h_9 h_10 h_11 h_46 h_65 h_66 h_70 h_75 h_76 h_81 h_82 h_87 h_88 h_93 h_449 h_606 h_607 h_608 h_609 h_610 h_611 h_612 h_613 h_614 h_615 h_616 h_617 h_618 h_619 h_620 h_621 h_623 h_636 h_638 hq6 hq7 h_12 h_21 h_37 h_622 h_634; omega) | omega, by first | (clear ha2 hq0 hq1 hq2 hq3 hq4 hq5 hq8 h_1 h_2 h_3 h_4 h_5 h_6 h_7 h_8 h_9 h_10 h_11 h_46 h_65 h_66 h_70 h_75 h_76 h_81 h_82 h_87 h_88 h_93 h_449 h_606 h_607 h_608 h_609 h_610 h_611 h_612 h_613 h_614 h_615 h_616 h_617 h_618 h_619 h_620 h_621 h_623 h_636 hq6 hq7 h_12 h_21 h_37 h_622 h_634; omega) | omega, by first | (clear ha2 hq0 hq2 hq3 hq4 hq5 hq8 h_1 h_2 h_3 h_4 h_5 h_6 h_7 h_8 h_9 h_10 h_11 h_46 h_65 h_66 h_70 h_75 h_76 h_81 h_82 h_87 h_88 h_93 h_449 h_606 h_607 h_608 h_609 h_610 h_611 h_612 h_613 h_614 h_615 h_616 h_617 h_618 h_619 h_620 h_621 h_623 h_636 h_638 hq6 hq7 h_12 h_21 h_37 h_622 h_634; omega) | omega⟩) hG_74 (fun c_670 hI_671 hF_672 hR_674 h_675 h_676 => ?_))
                refine bk_inl ?_
                have h_677 := ir_1_2 hI_72
                refine q_aload_n rfl rfl ?_
                have h_678 := ir_41_5 hI_671
                have h_679 := ir_1_5 hI_72
                have h_680 := ir_41_4 hI_671
                have h_681 := ir_41_6 hI_671
                have h_682 := rt_ok hR_674 (by omega)
                have hro_hR_674 := rt_ok hR_674 (by omega)
                have kn_683 : Hid (c_71 1 1 = e1) := (hF_73 1 1 (fun q => q.elim (fun h => absurd h.2 (ni rfl)) (fun q => q.elim (fun h => absurd h.2 (ni rfl)) (fun h => absurd h.2 (ni rfl))))).trans (hid kn_658)
                have kn_684 : Hid (c_670 41 3 = e1) := (hF_672 41 3 (fun q => q.elim (fun h => absurd h.2 (ni rfl)) (fun q => q.elim (fun h => absurd h.2 (ni rfl)) (fun h => absurd h.2 (ni rfl))))).trans ((up_n (by decide)).trans ((up_n (by decide)).trans (hid kn_659)))
                have kn_685 : Hid (c_18 (A + 7) 5 = n0) := (hF_20 (A + 7) 5 (fun h => absurd h.1 (np hA rfl rfl))).trans (hg_n0)
                have kn_686 : Hid (c_24 (A + 7) 5 = n0) := (hF_26 (A + 7) 5 (fun h => absurd h.1 (np hA rfl rfl))).trans (hid kn_685)
                have kn_687 : Hid (c_34 (A + 7) 5 = n0) := (hF_36 (A + 7) 5 (fun h => absurd h.1 (np hA rfl rfl))).trans (hid kn_686)
                have kn_688 : Hid (c_62 (A + 7) 5 = n0) := (hF_64 (A + 7) 5 (fun q => q.elim (fun h => absurd h.1 (np hA rfl rfl)) (fun q => q.elim (fun h => absurd h.1 (np hA rfl rfl)) (fun h => absurd h.1 (np hA rfl rfl))))).trans (hid kn_687)
                have kn_689 : Hid (c_71 (A + 7) 5 = n0) := (hF_73 (A + 7) 5 (fun q => q.elim (fun h => absurd h.1 (np hA rfl rfl)) (fun q => q.elim (fun h => absurd h.1 (np hA rfl rfl)) (fun h => absurd h.1 (np hA rfl rfl))))).trans (hid kn_688)
                have kn_690 : Hid (c_624 41 29 = n0) := (hF_626 41 29 (fun h => absurd h.2 (ni rfl))).trans (hr_n0)
                have kn_691 : Hid (c_629 41 29 = n0) := (hF_631 41 29 (fun h => absurd h.2 (ni rfl))).trans (hid kn_690)
                have kn_692 : Hid (c_639 41 29 = n0) := (hF_641 41 29 (fun h => absurd h.2 (ni rfl))).trans (hid kn_691)
                have kn_693 : Hid (c_644 41 29 = n0) := (hF_646 41 29 (fun h => absurd h.2 (ni rfl))).trans (hid kn_692)
                have kn_694 : Hid (c_670 41 29 = n0) := (hF_672 41 29 (fun q => q.elim (fun h => absurd h.2 (ni rfl)) (fun q => q.elim (fun h => absurd h.2 (ni rfl)) (fun h => absurd h.2 (ni rfl))))).trans ((up_n (by decide)).trans ((up_n (by decide)).trans (hid kn_693)))
                have kn_695 : Hid (c_670 41 7 = o0 + 1) := (hF_672 41 7 (fun q => q.elim (fun h => absurd h.2 (ni rfl)) (fun q => q.elim (fun h => absurd h.2 (ni rfl)) (fun h => absurd h.2 (ni rfl))))).trans (up_e rfl)
                have hA_696 : Ce n0 (c_71 (A + 9)) (c_670 50) (c_670 51) := ce_fr hr0 (fun j => (hF_73 (A + 9) j (fun q => q.elim (fun h => absurd h.1 (np hA rfl rfl)) (fun q => q.elim (fun h => absurd h.1 (np hA rfl rfl)) (fun h => absurd h.1 (np hA rfl rfl))))).trans ((hF_64 (A + 9) j (fun q => q.elim (fun h => absurd h.1 (np hA rfl rfl)) (fun q => q.elim (fun h => absurd h.1 (np hA rfl rfl)) (fun h => absurd h.1 (np hA rfl rfl))))).trans ((hF_36 (A + 9) j (fun h => absurd h.1 (np hA rfl rfl))).trans ((hF_26 (A + 9) j (fun h => absurd h.1 (np hA rfl rfl))).trans (hF_20 (A + 9) j (fun h => absurd h.1 (np hA rfl rfl))))))) (fun j => (hF_672 50 j (fun q => q.elim (fun h => absurd h.1 (nn rfl)) (fun q => q.elim (fun h => absurd h.1 (nn rfl)) (fun h => absurd h.1 (nn rfl))))).trans ((up_c (nn rfl)).trans ((up_c (nn rfl)).trans ((hF_646 50 j (fun h => absurd h.1 (nn rfl))).trans ((hF_641 50 j (fun h => absurd h.1 (nn rfl))).trans ((hF_631 50 j (fun h => absurd h.1 (nn rfl))).trans (hF_626 50 j (fun h => absurd h.1 (nn rfl))))))))) (fun j => (hF_672 51 j (fun q => q.elim (fun h => absurd h.1 (nn rfl)) (fun q => q.elim (fun h => absurd h.1 (nn rfl)) (fun h => absurd h.1 (nn rfl))))).trans ((up_c (nn rfl)).trans ((up_c (nn rfl)).trans ((hF_646 51 j (fun h => absurd h.1 (nn rfl))).trans ((hF_641 51 j (fun h => absurd h.1 (nn rfl))).trans ((hF_631 51 j (fun h => absurd h.1 (nn rfl))).trans (hF_626 51 j (fun h => absurd h.1 (nn rfl)))))))))
                refine v_cv rfl rfl rfl rfl (by decide) ⟨⟨rfl, rfl⟩, by decide, rfl⟩ (Nat.le_of_ble_eq_true rfl) (Nat.le_of_ble_eq_true rfl) (H13 (m := c_71) (e1 := e1) (f0 := c_71 1 4) (g0 := c_71 1 5) (p0 := c_71 1 2) (n0 := n0) (o0 := o0 + 1) (by omega) (by omega) hI_671 hI_72 hI_78 (show 0 ≤ a2 + 1 ∧ a2 + 1 ≤ 6 from ⟨by first | exact rgp_l ha2.1 (by decide) | omega, by first | (clear ha2 hq0 hq1 hq2 hq3 hq4 hq5 hq8 h_1 h_2 h_3 h_4 h_5 h_6 h_7 h_8 h_9 h_10 h_11 h_46 h_65 h_66 h_75 h_76 h_81 h_82 h_87 h_88 h_93 h_449 h_606 h_607 h_608 h_609 h_610 h_611 h_612 h_613 h_614 h_615 h_616 h_617 h_618 h_619 h_620 h_621 h_623 h_636 h_638 h_677 h_678 h_679 h_680 h_681 h_682 hq6 hq7 h_12 h_21 h_37 h_622 h_634 h_675 h_676; omega) | omega⟩) (by first | (clear ha2 hq0 hq1 hq2 hq3 hq4 hq5 hq8 h_1 h_2 h_3 h_4 h_5 h_6 h_7 h_8 h_9 h_10 h_11 h_46 h_65 h_66 h_70 h_81 h_82 h_87 h_88 h_93 h_449 h_606 h_607 h_608 h_609 h_610 h_611 h_612 h_613 h_614 h_615 h_616 h_617 h_618 h_619 h_620 h_621 h_623 h_636 h_638 h_677 h_678 h_679 h_680 h_681 h_682 hq6 hq7 h_12 h_21 h_37 h_622 h_634 h_675 h_676; omega) | omega) (by first | (clear ha2 hq0 hq1 hq2 hq3 hq4 hq5 hq8 h_1 h_2 h_3 h_4 h_5 h_6 h_7 h_8 h_9 h_10 h_11 h_46 h_65 h_66 h_70 h_75 h_76 h_81 h_82 h_87 h_88 h_93 h_449 h_606 h_607 h_608 h_609 h_610 h_611 h_612 h_613 h_614 h_615 h_616 h_617 h_618 h_619 h_620 h_621 h_623 h_636 h_638 h_677 h_678 h_680 h_681 hq6 hq7 h_12 h_21 h_37 h_622 h_634 h_675 h_676; omega) | omega) (by first | (clear ha2 hq0 hq1 hq3 hq4 hq5 hq8 h_1 h_2 h_3 h_4 h_5 h_6 h_7 h_8 h_9 h_10 h_11 h_46 h_65 h_66 h_70 h_75 h_76 h_81 h_82 h_87 h_88 h_93 h_449 h_606 h_607 h_608 h_609 h_610 h_611 h_612 h_613 h_614 h_615 h_616 h_617 h_618 h_619 h_620 h_621 h_623 h_636 h_638 h_677 h_678 h_679 h_680 h_681 h_682 hq6 hq7 h_12 h_21 h_37 h_622 h_634 h_675 h_676; omega) | omega) (by first | (clear ha2 hq0 hq1 hq2 hq8 h_3 h_4 h_8 h_9 h_11 h_65 h_66 h_70 h_81 h_82 h_87 h_88 h_93 h_449 h_606 h_607 h_608 h_609 h_610 h_611 h_612 h_613 h_614 h_615 h_616 h_617 h_618 h_619 h_620 h_621 h_623 h_636 h_681 h_634; omega) | omega) (by first | (clear ha2 hq0 hq1 hq2 hq3 hq8 h_3 h_4 h_5 h_6 h_7 h_8 h_9 h_11 h_65 h_66 h_70 h_75 h_76 h_81 h_82 h_87 h_88 h_93 h_449 h_606 h_607 h_608 h_609 h_610 h_611 h_612 h_613 h_614 h_615 h_616 h_617 h_618 h_619 h_620 h_621 h_623 h_636 h_638 h_678 h_679 h_680 h_681 h_634 h_676; omega) | omega) (by first | (clear ha2 hq0 hq1 hq2 hq3 hq4 hq8 h_1 h_2 h_3 h_4 h_5 h_6 h_7 h_8 h_9 h_10 h_11 h_46 h_65 h_66 h_70 h_75 h_76 h_81 h_82 h_87 h_88 h_93 h_449 h_606 h_607 h_608 h_609 h_610 h_611 h_612 h_613 h_614 h_615 h_616 h_617 h_618 h_619 h_620 h_621 h_623 h_636 h_638 h_677 h_678 h_679 h_680 h_681 h_682 hq6 hq7 h_12 h_21 h_37 h_622 h_634 h_675 h_676; omega) | omega) ((hid kn_683)) ((hid kn_684)) (rfl) (rfl) (rfl) ((hid kn_689)) ((hid kn_694)) ((hid kn_695)) (fun j => ((hF_73 2 j (fun q => q.elim (fun h => absurd h.1 (nn rfl)) (fun q => q.elim (fun h => absurd h.1 (nn rfl)) (fun h => absurd h.1 (nn rfl))))).trans ((hF_64 2 j (fun q => q.elim (fun h => absurd h.1 (nn rfl)) (fun q => q.elim (fun h => absurd h.1 (nn rfl)) (fun h => absurd h.1 (nn rfl))))).trans ((hF_36 2 j (fun h => absurd h.1 (nn rfl))).trans ((hF_26 2 j (fun h => absurd h.1 (nn rfl))).trans (hF_20 2 j (fun h => absurd h.1 (nn rfl))))))).trans (hF j)) (fun j => ((hF_672 43 j (fun q => q.elim (fun h => absurd h.1 (nn rfl)) (fun q => q.elim (fun h => absurd h.1 (nn rfl)) (fun h => absurd h.1 (nn rfl))))).trans ((up_c (nn rfl)).trans ((up_c (nn rfl)).trans ((hF_646 43 j (fun h => absurd h.1 (nn rfl))).trans ((hF_641 43 j (fun h => absurd h.1 (nn rfl))).trans ((hF_631 43 j (fun h => absurd h.1 (nn rfl))).trans (hF_626 43 j (fun h => absurd h.1 (nn rfl))))))))).trans (hH j)) hU hR_674 (ce_le hA_696 (by omega)) hG_80 (fun c_697 hI_698 hF_699 hR_701 h_702 h_703 hA_704 => ?_))
                refine bk_inl ?_
                have h_705 := ir_41_29 hI_698
                have h_706 := ir_p7_5 hI_78 hA
                have h_707 := ir_1_2 hI_78
                have h_708 := ir_41_7 hI_698
                refine q_aload_n rfl rfl ?_
                refine v_bip rfl (by decide) ?_
                have h_709 := ir_41_5 hI_698
                have h_710 := ir_1_5 hI_78
                have h_711 := ir_41_4 hI_698
                have h_712 := ir_41_6 hI_698
                have h_713 := rt_ok hR_701 (by omega)
                have hro_hR_701 := rt_ok hR_701 (by omega)
                have kn_714 : Hid (c_77 1 1 = e1) := (hF_79 1 1 (fun q => q.elim (fun h => absurd h.2 (ni rfl)) (fun q => q.elim (fun h => absurd h.2 (ni rfl)) (fun q => q.elim (fun h => absurd h.2 (ni rfl)) (fun q => q.elim (fun h => absurd h.1 (pn hA rfl rfl)) (fun h => absurd h (pn hA rfl rfl))))))).trans (hid kn_683)
                have kn_715 : Hid (c_697 41 3 = e1) := (hF_699 41 3 (fun q => q.elim (fun h => absurd h.2 (ni rfl)) (fun q => q.elim (fun h => absurd h.2 (ni rfl)) (fun q => q.elim (fun h => absurd h.2 (ni rfl)) (fun q => q.elim (fun h => absurd h.2 (ni rfl)) (fun q => q.elim (fun h => absurd h.2 (ni rfl)) (fun q => q.elim (fun h => absurd h (nn rfl)) (fun h => absurd h (nn rfl))))))))).trans (hid kn_684)
                refine v_cv rfl rfl rfl rfl (by decide) ⟨⟨rfl, rfl⟩, by decide, rfl⟩ (Nat.le_of_ble_eq_true rfl) (Nat.le_of_ble_eq_true rfl) (L_11_4 (m := c_77) (e1 := e1) (a9 := c_77 1 2) (f0 := c_77 1 4) (F := F) (H := H) hI_698 hI_78 hI_84 ((hid kn_714)) ((hid kn_715)) (rfl) (rfl) (fun j => ((hF_79 2 j (fun q => q.elim (fun h => absurd h.1 (nn rfl)) (fun q => q.elim (fun h => absurd h.1 (nn rfl)) (fun q => q.elim (fun h => absurd h.1 (nn rfl)) (fun q => q.elim (fun h => absurd h.1 (pn hA rfl rfl)) (fun h => absurd h (pn hA rfl rfl))))))).trans ((hF_73 2 j (fun q => q.elim (fun h => absurd h.1 (nn rfl)) (fun q => q.elim (fun h => absurd h.1 (nn rfl)) (fun h => absurd h.1 (nn rfl))))).trans ((hF_64 2 j (fun q => q.elim (fun h => absurd h.1 (nn rfl)) (fun q => q.elim (fun h => absurd h.1 (nn rfl)) (fun h => absurd h.1 (nn rfl))))).trans ((hF_36 2 j (fun h => absurd h.1 (nn rfl))).trans ((hF_26 2 j (fun h => absurd h.1 (nn rfl))).trans (hF_20 2 j (fun h => absurd h.1 (nn rfl)))))))).trans (hF j)) (fun j => ((hF_699 43 j (fun q => q.elim (fun h => absurd h.1 (nn rfl)) (fun q => q.elim (fun h => absurd h.1 (nn rfl)) (fun q => q.elim (fun h => absurd h.1 (nn rfl)) (fun q => q.elim (fun h => absurd h.1 (nn rfl)) (fun q => q.elim (fun h => absurd h.1 (nn rfl)) (fun q => q.elim (fun h => absurd h (nn rfl)) (fun h => absurd h (nn rfl))))))))).trans ((hF_672 43 j (fun q => q.elim (fun h => absurd h.1 (nn rfl)) (fun q => q.elim (fun h => absurd h.1 (nn rfl)) (fun h => absurd h.1 (nn rfl))))).trans ((up_c (nn rfl)).trans ((up_c (nn rfl)).trans ((hF_646 43 j (fun h => absurd h.1 (nn rfl))).trans ((hF_641 43 j (fun h => absurd h.1 (nn rfl))).trans ((hF_631 43 j (fun h => absurd h.1 (nn rfl))).trans (hF_626 43 j (fun h => absurd h.1 (nn rfl)))))))))).trans (hH j)) hU hR_701 hG_86 (fun c_716 hI_717 hF_718 hR_720 h_721 h_722 => ?_))
                refine bk_inl ?_
                have h_723 := ir_1_2 hI_84
                refine q_aload_n rfl rfl ?_
                have h_724 := ir_41_5 hI_717
                have h_725 := ir_1_5 hI_84
                have h_726 := ir_41_4 hI_717
                have h_727 := ir_41_6 hI_717
                have h_728 := rt_ok hR_720 (by omega)
                have hro_hR_720 := rt_ok hR_720 (by omega)
                have kn_729 : Hid (c_83 1 1 = e1) := (hF_85 1 1 (fun q => q.elim (fun h => absurd h.2 (ni rfl)) (fun q => q.elim (fun h => absurd h.2 (ni rfl)) (fun h => absurd h.2 (ni rfl))))).trans (hid kn_714)
                have kn_730 : Hid (c_716 41 3 = e1) := (hF_718 41 3 (fun q => q.elim (fun h => absurd h.2 (ni rfl)) (fun q => q.elim (fun h => absurd h.2 (ni rfl)) (fun h => absurd h.2 (ni rfl))))).trans (hid kn_715)
                have kn_731 : Hid (c_83 (A + 7) 5 = c_77 (A + 7) 5) := hF_85 (A + 7) 5 (fun q => q.elim (fun h => absurd h.1 (np hA rfl rfl)) (fun q => q.elim (fun h => absurd h.1 (np hA rfl rfl)) (fun h => absurd h.1 (np hA rfl rfl))))
                have kn_732 : Hid (c_716 41 29 = c_697 41 29) := hF_718 41 29 (fun q => q.elim (fun h => absurd h.2 (ni rfl)) (fun q => q.elim (fun h => absurd h.2 (ni rfl)) (fun h => absurd h.2 (ni rfl))))
                have kn_733 : Hid (c_716 41 7 = c_697 41 7) := hF_718 41 7 (fun q => q.elim (fun h => absurd h.2 (ni rfl)) (fun q => q.elim (fun h => absurd h.2 (ni rfl)) (fun h => absurd h.2 (ni rfl))))
                have hA_734 : Ce (c_697 41 29) (c_83 (A + 9)) (c_716 50) (c_716 51) := ce_fr (hA_704 (by omega)) (fun j => hF_85 (A + 9) j (fun q => q.elim (fun h => absurd h.1 (np hA rfl rfl)) (fun q => q.elim (fun h => absurd h.1 (np hA rfl rfl)) (fun h => absurd h.1 (np hA rfl rfl))))) (fun j => hF_718 50 j (fun q => q.elim (fun h => absurd h.1 (nn rfl)) (fun q => q.elim (fun h => absurd h.1 (nn rfl)) (fun h => absurd h.1 (nn rfl))))) (fun j => hF_718 51 j (fun q => q.elim (fun h => absurd h.1 (nn rfl)) (fun q => q.elim (fun h => absurd h.1 (nn rfl)) (fun h => absurd h.1 (nn rfl)))))
                have hA_735 : Ce (c_77 (A + 7) 5) (c_83 (A + 9)) (c_716 50) (c_716 51) := ce_le hA_734 (by omega)
                refine v_cv rfl rfl rfl rfl (by decide) ⟨⟨rfl, rfl⟩, by decide, rfl⟩ (Nat.le_of_ble_eq_true rfl) (Nat.le_of_ble_eq_true rfl) (H13 (m := c_83) (e1 := e1) (f0 := c_83 1 4) (g0 := c_83 1 5) (p0 := c_83 1 2) (n0 := c_77 (A + 7) 5) (o0 := c_697 41 7) (by omega) (by omega) hI_717 hI_84 hI_90 (show 0 ≤ a2 + 1 ∧ a2 + 1 ≤ 6 from ⟨by first | exact rgp_l ha2.1 (by decide) | omega, by first | (clear ha2 hq0 hq1 hq2 hq3 hq4 hq5 hq8 h_1 h_2 h_3 h_4 h_5 h_6 h_7 h_8 h_9 h_10 h_11 h_46 h_65 h_66 h_75 h_76 h_81 h_82 h_87 h_88 h_93 h_449 h_606 h_607 h_608 h_609 h_610 h_611 h_612 h_613 h_614 h_615 h_616 h_617 h_618 h_619 h_620 h_621 h_623 h_636 h_638 h_677 h_678 h_679 h_680 h_681 h_682 h_705 h_706 h_707 h_708 h_703 h_709 h_710 h_711 h_712 h_713 h_723 h_724 h_725 h_726 h_727 h_728 hq6 hq7 h_12 h_21 h_37 h_622 h_634 h_675 h_676 h_702 h_721 h_722; omega) | omega⟩) (by first | (clear ha2 hq0 hq1 hq2 hq3 hq4 hq5 hq8 h_1 h_2 h_3 h_4 h_5 h_6 h_7 h_8 h_9 h_10 h_11 h_46 h_65 h_66 h_70 h_75 h_76 h_81 h_82 h_93 h_449 h_606 h_607 h_608 h_609 h_610 h_611 h_612 h_613 h_614 h_615 h_616 h_617 h_618 h_619 h_620 h_621 h_623 h_636 h_638 h_677 h_678 h_679 h_680 h_681 h_682 h_705 h_706 h_707 h_708 h_703 h_709 h_710 h_711 h_712 h_713 h_723 h_724 h_725 h_726 h_727 h_728 hq6 hq7 h_12 h_21 h_37 h_622 h_634 h_675 h_676 h_702 h_721 h_722; omega) | omega) (by first | (clear ha2 hq0 hq1 hq2 hq3 hq4 hq5 hq8 h_1 h_2 h_3 h_4 h_5 h_6 h_7 h_8 h_9 h_10 h_11 h_46 h_65 h_66 h_70 h_75 h_76 h_81 h_82 h_87 h_88 h_93 h_449 h_606 h_607 h_608 h_609 h_610 h_611 h_612 h_613 h_614 h_615 h_616 h_617 h_618 h_619 h_620 h_621 h_623 h_636 h_638 h_677 h_678 h_679 h_680 h_681 h_682 h_705 h_706 h_707 h_708 h_703 h_709 h_710 h_711 h_712 h_713 h_723 h_724 h_726 h_727 hq6 hq7 h_12 h_21 h_37 h_622 h_634 h_675 h_676 h_702 h_721 h_722; omega) | omega) (by first | (clear ha2 hq0 hq1 hq2 hq3 hq4 hq5 hq8 h_1 h_2 h_3 h_4 h_5 h_6 h_7 h_8 h_9 h_10 h_11 h_46 h_65 h_66 h_70 h_75 h_76 h_81 h_82 h_87 h_88 h_93 h_449 h_606 h_607 h_608 h_609 h_610 h_611 h_612 h_613 h_614 h_615 h_616 h_617 h_618 h_619 h_620 h_621 h_623 h_636 h_638 h_677 h_678 h_679 h_680 h_681 h_682 h_705 h_706 h_707 h_708 h_709 h_710 h_711 h_712 h_713 h_723 h_724 h_725 h_726 h_727 h_728 hq6 hq7 h_12 h_21 h_37 h_622 h_634 h_675 h_676 h_702 h_721 h_722; omega) | omega) (by first | (clear ha2 hq0 hq1 hq2 hq8 h_3 h_4 h_5 h_8 h_9 h_11 h_65 h_66 h_70 h_75 h_76 h_93 h_449 h_606 h_607 h_608 h_609 h_610 h_611 h_612 h_613 h_614 h_615 h_616 h_617 h_618 h_619 h_620 h_621 h_623 h_636 h_638 h_678 h_679 h_680 h_681 h_708 h_703 h_709 h_710 h_711 h_712 h_727 h_634 h_676; omega) | omega) (by first | (clear ha2 hq0 hq1 hq2 hq3 hq8 h_3 h_4 h_5 h_6 h_7 h_8 h_9 h_11 h_65 h_66 h_70 h_75 h_76 h_81 h_82 h_87 h_88 h_93 h_449 h_606 h_607 h_608 h_609 h_610 h_611 h_612 h_613 h_614 h_615 h_616 h_617 h_618 h_619 h_620 h_621 h_623 h_636 h_638 h_677 h_678 h_679 h_680 h_681 h_682 h_705 h_706 h_707 h_708 h_703 h_709 h_710 h_711 h_712 h_713 h_724 h_725 h_726 h_727 h_634 h_676 h_722; omega) | omega) (by first | (clear ha2 hq0 hq1 hq2 hq3 hq4 hq8 h_1 h_2 h_3 h_4 h_5 h_6 h_7 h_8 h_9 h_10 h_11 h_46 h_65 h_66 h_70 h_75 h_76 h_81 h_82 h_87 h_88 h_93 h_449 h_606 h_607 h_608 h_609 h_610 h_611 h_612 h_613 h_614 h_615 h_616 h_617 h_618 h_619 h_620 h_621 h_623 h_636 h_638 h_677 h_678 h_679 h_680 h_681 h_682 h_705 h_706 h_707 h_708 h_703 h_709 h_710 h_711 h_712 h_713 h_723 h_724 h_725 h_726 h_727 h_728 hq6 hq7 h_12 h_21 h_37 h_622 h_634 h_675 h_676 h_702 h_721 h_722; omega) | omega) ((hid kn_729)) ((hid kn_730)) (rfl) (rfl) (rfl) ((hid kn_731)) (((show _ = c_697 41 29 from (hid kn_732)).trans (by omega))) ((hid kn_733)) (fun j => ((hF_85 2 j (fun q => q.elim (fun h => absurd h.1 (nn rfl)) (fun q => q.elim (fun h => absurd h.1 (nn rfl)) (fun h => absurd h.1 (nn rfl))))).trans ((hF_79 2 j (fun q => q.elim (fun h => absurd h.1 (nn rfl)) (fun q => q.elim (fun h => absurd h.1 (nn rfl)) (fun q => q.elim (fun h => absurd h.1 (nn rfl)) (fun q => q.elim (fun h => absurd h.1 (pn hA rfl rfl)) (fun h => absurd h (pn hA rfl rfl))))))).trans ((hF_73 2 j (fun q => q.elim (fun h => absurd h.1 (nn rfl)) (fun q => q.elim (fun h => absurd h.1 (nn rfl)) (fun h => absurd h.1 (nn rfl))))).trans ((hF_64 2 j (fun q => q.elim (fun h => absurd h.1 (nn rfl)) (fun q => q.elim (fun h => absurd h.1 (nn rfl)) (fun h => absurd h.1 (nn rfl))))).trans ((hF_36 2 j (fun h => absurd h.1 (nn rfl))).trans ((hF_26 2 j (fun h => absurd h.1 (nn rfl))).trans (hF_20 2 j (fun h => absurd h.1 (nn rfl))))))))).trans (hF j)) (fun j => ((hF_718 43 j (fun q => q.elim (fun h => absurd h.1 (nn rfl)) (fun q => q.elim (fun h => absurd h.1 (nn rfl)) (fun h => absurd h.1 (nn rfl))))).trans ((hF_699 43 j (fun q => q.elim (fun h => absurd h.1 (nn rfl)) (fun q => q.elim (fun h => absurd h.1 (nn rfl)) (fun q => q.elim (fun h => absurd h.1 (nn rfl)) (fun q => q.elim (fun h => absurd h.1 (nn rfl)) (fun q => q.elim (fun h => absurd h.1 (nn rfl)) (fun q => q.elim (fun h => absurd h (nn rfl)) (fun h => absurd h (nn rfl))))))))).trans ((hF_672 43 j (fun q => q.elim (fun h => absurd h.1 (nn rfl)) (fun q => q.elim (fun h => absurd h.1 (nn rfl)) (fun h => absurd h.1 (nn rfl))))).trans ((up_c (nn rfl)).trans ((up_c (nn rfl)).trans ((hF_646 43 j (fun h => absurd h.1 (nn rfl))).trans ((hF_641 43 j (fun h => absurd h.1 (nn rfl))).trans ((hF_631 43 j (fun h => absurd h.1 (nn rfl))).trans (hF_626 43 j (fun h => absurd h.1 (nn rfl))))))))))).trans (hH j)) hU hR_720 (ce_le hA_735 (by omega)) hG_92 (fun c_736 hI_737 hF_738 hR_740 h_741 h_742 hA_743 => ?_))
                refine bk_inl ?_
                have h_744 := ir_41_29 hI_737
                have h_745 := ir_41_7 hI_737
                refine q_aload_n rfl rfl ?_
                refine v_bip rfl (by decide) ?_
                have h_746 := ir_41_5 hI_737
                have h_747 := ir_41_4 hI_737
                have h_748 := ir_41_6 hI_737
                have h_749 := rt_bad hR_740 (by omega)
                have hrb_hR_740 := rt_bad hR_740 (by omega)
                refine v_cv rfl rfl rfl rfl (by decide) ⟨⟨rfl, rfl⟩, by decide, rfl⟩ (Nat.le_of_ble_eq_true rfl) (Nat.le_of_ble_eq_true rfl) ?_
                refine q_aload_n rfl rfl ?_
                refine v_cv rfl rfl rfl rfl (by decide) ⟨⟨rfl, rfl⟩, by decide, rfl⟩ (Nat.le_of_ble_eq_true rfl) (Nat.le_of_ble_eq_true rfl) ?_
                refine q_aload_n rfl rfl ?_
                refine v_gi (z := 5) (v := c_89 1 5) rfl rfl rfl (by decide) rfl rfl hrb_hR_740.2.1 ?_
                refine q_iconst rfl ?_
                refine v_ic_ne_t (t := 12) rfl (by decide) ⟨by first | (clear ha2 hq0 hq1 hq2 hq3 hq4 hq5 hq8 h_1 h_2 h_3 h_4 h_5 h_6 h_7 h_8 h_9 h_10 h_11 h_46 h_65 h_66 h_70 h_75 h_76 h_81 h_82 h_87 h_88 h_93 h_449 h_606 h_607 h_608 h_609 h_610 h_611 h_612 h_613 h_614 h_615 h_616 h_617 h_618 h_619 h_620 h_621 h_623 h_636 h_638 h_677 h_678 h_679 h_680 h_681 h_682 h_705 h_706 h_707 h_708 h_703 h_709 h_710 h_711 h_712 h_713 h_723 h_724 h_725 h_726 h_727 h_728 h_744 h_745 h_742 h_746 h_747 h_748 hq6 hq7 h_12 h_21 h_37 h_622 h_634 h_675 h_676 h_702 h_721 h_722 h_741; omega) | omega, ⟨(Int.le_trans (by decide) h_611.1), (Int.le_trans h_611.2 (by decide))⟩, by decide, by decide⟩ ?_
                refine q_iconst rfl ?_
                refine v_zret rfl rfl (by decide) ?_
                refine bk_inl ?_
                refine v_if_eq_t (t := 24) rfl (by decide) (by decide) ?_
                refine q_aload_n rfl rfl ?_
                refine v_cv rfl rfl rfl rfl (by decide) ⟨⟨rfl, rfl⟩, by decide, rfl⟩ (Nat.le_of_ble_eq_true rfl) (Nat.le_of_ble_eq_true rfl) ?_
                refine q_aload_n rfl rfl ?_
                refine v_gi (z := 5) (v := c_89 1 5) rfl rfl rfl (by decide) rfl rfl hrb_hR_740.2.1 ?_
                refine q_iconst rfl ?_
                refine v_ic_ne_t (t := 12) rfl (by decide) ⟨by first | (clear ha2 hq0 hq1 hq2 hq3 hq4 hq5 hq8 h_1 h_2 h_3 h_4 h_5 h_6 h_7 h_8 h_9 h_10 h_11 h_46 h_65 h_66 h_70 h_75 h_76 h_81 h_82 h_87 h_88 h_93 h_449 h_606 h_607 h_608 h_609 h_610 h_611 h_612 h_613 h_614 h_615 h_616 h_617 h_618 h_619 h_620 h_621 h_623 h_636 h_638 h_677 h_678 h_679 h_680 h_681 h_682 h_705 h_706 h_707 h_708 h_703 h_709 h_710 h_711 h_712 h_713 h_723 h_724 h_725 h_726 h_727 h_728 h_744 h_745 h_742 h_746 h_747 h_748 hq6 hq7 h_12 h_21 h_37 h_622 h_634 h_675 h_676 h_702 h_721 h_722 h_741; omega) | omega, ⟨(Int.le_trans (by decide) h_611.1), (Int.le_trans h_611.2 (by decide))⟩, by decide, by decide⟩ ?_
                refine q_iconst rfl ?_
                refine v_zret rfl rfl (by decide) ?_
                refine bk_inl ?_
                refine v_if_eq_t (t := 41) rfl (by decide) (by decide) ?_
                refine q_vret rfl rfl ?_
                refine bk_inl ?_
                refine q_aload_n rfl rfl ?_
                refine q_dup rfl rfl ?_
                refine v_gi (z := 7) (v := c_736 41 7) rfl rfl rfl (by decide) rfl rfl rfl ?_
                refine q_iconst rfl ?_
                refine v_isub (v := c_736 41 7 - 1) rfl rfl ?_
                refine v_pi (z := 7) rfl rfl rfl (by decide) rfl rfl rfl (by decide) ?_
                refine q_aload_n rfl rfl ?_
                refine q_iload_n rfl rfl ?_
                refine q_iconst rfl ?_
                refine v_cv rfl rfl rfl rfl (by decide) ⟨⟨rfl, rfl⟩, by decide, rfl⟩ (Nat.le_of_ble_eq_true rfl) (Nat.le_of_ble_eq_true rfl) ?_
                refine q_aload_n rfl rfl ?_
                refine v_cv rfl rfl rfl rfl (by decide) ⟨⟨rfl, rfl⟩, by decide, rfl⟩ (Nat.le_of_ble_eq_true rfl) (Nat.le_of_ble_eq_true rfl) ?_
                refine q_aload_n rfl rfl ?_
                refine v_gi (z := 5) (v := c_89 1 5) rfl rfl rfl (by decide) rfl rfl (((up_n (by decide))).trans (hrb_hR_740.2.1)) ?_
                refine q_iconst rfl ?_
                refine v_ic_ne_t (t := 12) rfl (by decide) ⟨by first | (clear ha2 hq0 hq1 hq2 hq3 hq4 hq5 hq8 h_1 h_2 h_3 h_4 h_5 h_6 h_7 h_8 h_9 h_10 h_11 h_46 h_65 h_66 h_70 h_75 h_76 h_81 h_82 h_87 h_88 h_93 h_449 h_606 h_607 h_608 h_609 h_610 h_611 h_612 h_613 h_614 h_615 h_616 h_617 h_618 h_619 h_620 h_621 h_623 h_636 h_638 h_677 h_678 h_679 h_680 h_681 h_682 h_705 h_706 h_707 h_708 h_703 h_709 h_710 h_711 h_712 h_713 h_723 h_724 h_725 h_726 h_727 h_728 h_744 h_745 h_742 h_746 h_747 h_748 hq6 hq7 h_12 h_21 h_37 h_622 h_634 h_675 h_676 h_702 h_721 h_722 h_741; omega) | omega, ⟨(Int.le_trans (by decide) h_611.1), (Int.le_trans h_611.2 (by decide))⟩, by decide, by decide⟩ ?_
                refine q_iconst rfl ?_
                refine v_zret rfl rfl (by decide) ?_
                refine bk_inl ?_
                refine v_if_ne_f (t := 8) rfl (by decide) (by decide) ?_
                refine q_vret rfl rfl ?_
                refine bk_inl ?_
                refine q_vret rfl rfl ?_
                refine bk_inl ?_
                refine q_goto (t := 154) rfl (by decide) ?_
                refine q_vret rfl rfl ?_
                have hI_750 := iw_41_7 (v := c_736 41 7 - 1) hI_737 ⟨by first | (clear hq0 hq1 hq2 hq3 hq4 hq5 hq8 h_1 h_2 h_3 h_4 h_5 h_6 h_7 h_8 h_9 h_10 h_11 h_46 h_65 h_66 h_70 h_75 h_76 h_81 h_82 h_87 h_88 h_93 h_449 h_606 h_607 h_608 h_609 h_610 h_611 h_612 h_613 h_614 h_615 h_616 h_617 h_618 h_619 h_620 h_621 h_623 h_636 h_638 h_677 h_678 h_679 h_680 h_681 h_682 h_705 h_706 h_707 h_708 h_703 h_709 h_710 h_711 h_712 h_713 h_723 h_724 h_725 h_726 h_727 h_728 h_744 h_745 h_746 h_747 h_748 h_749 hq6 hq7 h_12 h_21 h_37 h_622 h_634 h_675 h_676 h_702 h_721 h_722 h_741; omega) | omega, by first | exact rgm_h h_745.2 (by decide) | omega⟩
                have h_751 : (up c_736 41 7 (c_736 41 7 - 1)) 41 5 = c_89 1 5 := (((up_n (by decide))).trans (hrb_hR_740.2.1))
                have h_752 : (up c_736 41 7 (c_736 41 7 - 1)) 41 4 = c_736 41 4 := (up_n (by decide))
                have h_753 : (up c_736 41 7 (c_736 41 7 - 1)) 41 6 = c_89 1 4 := (((up_n (by decide))).trans (hrb_hR_740.2.2.2))
                have h_754 : (up c_736 41 7 (c_736 41 7 - 1)) 41 29 = c_736 41 29 := (up_n (by decide))
                have h_755 : (up c_736 41 7 (c_736 41 7 - 1)) 41 7 = c_736 41 7 - 1 := (up_e rfl)
                have h_756 : (up c_736 41 7 (c_736 41 7 - 1)) 41 29 = c_736 41 29 := (up_n (by decide))
                exact K (up c_736 41 7 (c_736 41 7 - 1))  hI_750 (fun a j hm => (up_b (Decidable.or_iff_not_imp_left.mpr (fun h1 h2 => hm (Or.inr (Or.inr (Or.inr (Or.inl ⟨Decidable.not_not.mp h1, h2⟩))))))).trans ((hF_738 a j (fun q => q.elim (fun h => hm (Or.inl h)) (fun q => q.elim (fun h => hm (Or.inr (Or.inl h))) (fun q => q.elim (fun h => hm (Or.inr (Or.inr (Or.inl h)))) (fun q => q.elim (fun h => hm (Or.inr (Or.inr (Or.inr (Or.inl h))))) (fun q => q.elim (fun h => hm (Or.inr (Or.inr (Or.inr (Or.inr (Or.inl h)))))) (fun q => q.elim (fun h => hm (Or.inr (Or.inr (Or.inr (Or.inr (Or.inr (Or.inl h))))))) (fun h => hm (Or.inr (Or.inr (Or.inr (Or.inr (Or.inr (Or.inr h)))))))))))))).trans ((hF_718 a j (fun q => q.elim (fun h => hm (Or.inl h)) (fun q => q.elim (fun h => hm (Or.inr (Or.inl h))) (fun h => hm (Or.inr (Or.inr (Or.inl h))))))).trans ((hF_699 a j (fun q => q.elim (fun h => hm (Or.inl h)) (fun q => q.elim (fun h => hm (Or.inr (Or.inl h))) (fun q => q.elim (fun h => hm (Or.inr (Or.inr (Or.inl h)))) (fun q => q.elim (fun h => hm (Or.inr (Or.inr (Or.inr (Or.inl h))))) (fun q => q.elim (fun h => hm (Or.inr (Or.inr (Or.inr (Or.inr (Or.inl h)))))) (fun q => q.elim (fun h => hm (Or.inr (Or.inr (Or.inr (Or.inr (Or.inr (Or.inl h))))))) (fun h => hm (Or.inr (Or.inr (Or.inr (Or.inr (Or.inr (Or.inr h)))))))))))))).trans ((hF_672 a j (fun q => q.elim (fun h => hm (Or.inl h)) (fun q => q.elim (fun h => hm (Or.inr (Or.inl h))) (fun h => hm (Or.inr (Or.inr (Or.inl h))))))).trans ((up_b (Decidable.or_iff_not_imp_left.mpr (fun h1 h2 => hm (Or.inr (Or.inr (Or.inr (Or.inl ⟨Decidable.not_not.mp h1, h2⟩))))))).trans ((up_b (Decidable.or_iff_not_imp_left.mpr (fun h1 h2 => hm (Or.inl ⟨Decidable.not_not.mp h1, h2⟩)))).trans ((hF_646 a j (fun h => hm (Or.inl h))).trans ((hF_641 a j (fun h => hm (Or.inl h))).trans ((hF_631 a j (fun h => hm (Or.inl h))).trans (hF_626 a j (fun h => hm (Or.inl h))))))))))))) (rt_i2 ⟨⟨by first | (clear ha2 hq0 hq1 hq2 hq3 hq4 hq5 hq8 h_1 h_2 h_3 h_4 h_5 h_6 h_7 h_8 h_9 h_10 h_11 h_46 h_65 h_66 h_70 h_75 h_76 h_81 h_82 h_87 h_88 h_93 h_449 h_606 h_608 h_609 h_610 h_611 h_612 h_613 h_614 h_615 h_616 h_617 h_618 h_619 h_620 h_621 h_623 h_636 h_638 h_677 h_678 h_679 h_680 h_681 h_682 h_705 h_706 h_707 h_708 h_703 h_709 h_710 h_711 h_712 h_713 h_723 h_724 h_725 h_726 h_727 h_728 h_744 h_745 h_742 h_746 h_747 h_748 hq6 hq7 h_12 h_21 h_37 h_622 h_634 h_675 h_676 h_702 h_721 h_722 h_741; omega) | omega, by first | (clear ha2 hq0 hq1 hq2 hq3 hq4 hq5 hq8 h_1 h_2 h_3 h_4 h_5 h_6 h_7 h_8 h_9 h_10 h_11 h_46 h_65 h_66 h_70 h_75 h_76 h_81 h_82 h_87 h_88 h_93 h_449 h_607 h_608 h_609 h_610 h_611 h_612 h_613 h_614 h_615 h_616 h_617 h_618 h_619 h_620 h_621 h_623 h_636 h_638 h_677 h_678 h_679 h_680 h_681 h_682 h_705 h_706 h_707 h_708 h_703 h_709 h_710 h_711 h_712 h_713 h_723 h_724 h_725 h_726 h_727 h_728 h_744 h_745 h_742 h_746 h_747 h_748 h_749 hq6 hq7 h_12 h_21 h_37 h_622 h_634 h_675 h_676 h_702 h_721 h_722 h_741; omega) | omega⟩, by first | (clear ha2 hq0 hq1 hq2 hq3 hq4 hq5 hq8 h_1 h_2 h_3 h_4 h_5 h_6 h_7 h_8 h_9 h_10 h_11 h_46 h_65 h_66 h_70 h_75 h_76 h_81 h_82 h_87 h_88 h_93 h_449 h_606 h_607 h_608 h_609 h_610 h_611 h_612 h_614 h_615 h_616 h_617 h_618 h_619 h_620 h_621 h_623 h_636 h_638 h_677 h_678 h_679 h_680 h_681 h_682 h_705 h_706 h_707 h_708 h_703 h_709 h_710 h_711 h_712 h_713 h_723 h_724 h_725 h_726 h_727 h_728 h_744 h_745 h_742 h_746 h_747 h_748 h_749 hq6 hq7 h_12 h_21 h_37 h_622 h_634 h_675 h_676 h_702 h_721 h_722 h_741; omega) | omega, by first | (clear ha2 hq0 hq1 hq2 hq3 hq4 hq5 hq8 h_1 h_2 h_3 h_4 h_5 h_6 h_7 h_8 h_9 h_10 h_11 h_46 h_65 h_66 h_70 h_75 h_76 h_81 h_82 h_87 h_88 h_93 h_449 h_606 h_607 h_608 h_609 h_610 h_611 h_612 h_614 h_615 h_616 h_617 h_618 h_619 h_620 h_621 h_623 h_636 h_638 h_677 h_678 h_679 h_680 h_681 h_682 h_705 h_706 h_707 h_708 h_703 h_709 h_710 h_711 h_712 h_713 h_723 h_724 h_725 h_726 h_727 h_728 h_744 h_745 h_742 h_746 h_747 h_748 hq6 hq7 h_12 h_21 h_37 h_622 h_634 h_675 h_676 h_702 h_721 h_722 h_741; omega) | omega, by first | (clear ha2 hq0 hq1 hq2 hq3 hq4 hq5 hq8 h_1 h_2 h_3 h_4 h_5 h_6 h_7 h_8 h_9 h_10 h_11 h_46 h_65 h_66 h_70 h_75 h_76 h_81 h_82 h_87 h_88 h_93 h_449 h_606 h_608 h_609 h_610 h_611 h_612 h_613 h_614 h_615 h_616 h_617 h_618 h_619 h_620 h_621 h_623 h_636 h_638 h_677 h_678 h_679 h_680 h_681 h_682 h_705 h_706 h_707 h_708 h_703 h_709 h_710 h_711 h_712 h_713 h_723 h_724 h_725 h_726 h_727 h_728 h_744 h_745 h_742 h_746 h_747 h_748 h_749 hq6 hq7 h_12 h_21 h_37 h_622 h_634 h_675 h_676 h_702 h_721 h_722 h_741; omega) | omega⟩) (Or.inr (Or.inl (by first | (clear ha2 hq0 hq1 hq2 hq3 hq4 hq5 hq8 h_1 h_2 h_3 h_4 h_5 h_6 h_7 h_8 h_9 h_10 h_11 h_46 h_65 h_66 h_70 h_75 h_76 h_81 h_82 h_87 h_88 h_93 h_449 h_606 h_608 h_609 h_610 h_611 h_612 h_613 h_614 h_615 h_616 h_617 h_618 h_619 h_620 h_621 h_623 h_636 h_638 h_677 h_678 h_679 h_680 h_681 h_682 h_705 h_706 h_707 h_708 h_703 h_709 h_710 h_711 h_712 h_713 h_723 h_724 h_725 h_726 h_727 h_728 h_744 h_745 h_742 h_746 h_747 h_748 hq6 hq7 h_12 h_21 h_37 h_622 h_634 h_675 h_676 h_702 h_721 h_722 h_741; omega) | omega))) (by first | (clear ha2 hq0 hq1 hq2 hq3 hq4 hq5 hq8 h_1 h_2 h_3 h_4 h_5 h_6 h_7 h_8 h_9 h_10 h_11 h_46 h_65 h_66 h_70 h_75 h_76 h_81 h_82 h_87 h_88 h_93 h_449 h_606 h_607 h_608 h_609 h_610 h_611 h_612 h_613 h_614 h_615 h_616 h_617 h_618 h_619 h_620 h_621 h_623 h_636 h_638 h_677 h_678 h_679 h_680 h_681 h_682 h_705 h_706 h_707 h_708 h_703 h_709 h_710 h_711 h_712 h_713 h_723 h_724 h_725 h_726 h_727 h_728 h_744 h_745 h_746 h_747 h_748 h_749 hq6 hq7 h_12 h_21 h_37 h_622 h_634 h_675 h_676 h_702 h_721 h_722 h_741; omega) | omega) (fun hz => absurd hz (by omega))
        · as_aux_lemma =>
            skip
            have h_757 := ir_1_5 hI_84
            refine v_cv rfl rfl rfl (ck_p7 hA) (a68 hA rfl) ⟨⟨rfl, rfl⟩, by decide, rfl⟩ (Nat.le_of_ble_eq_true rfl) (Nat.le_of_ble_eq_true rfl) (b_13 (a2 := a2 + 1) (f9 := c_83 1 4) (p9 := c_83 1 5) hI_84 hA (show 0 ≤ a2 + 1 ∧ a2 + 1 ≤ 6 from ⟨by first | exact rgp_l ha2.1 (by decide) | omega, by first | (clear ha2 hq0 hq1 hq2 hq3 hq4 hq5 hq8 h_1 h_2 h_3 h_4 h_5 h_6 h_7 h_8 h_9 h_10 h_11 h_46 h_65 h_66 h_75 h_76 h_81 h_82 h_87 hq6 hq7 h_12 h_21 h_37; omega) | omega⟩) (by omega) (rfl) (rfl) (fun c_758 hI_759 hF_760 hz_761 hz_762 => ?_))
            refine bk_inl ?_
            refine q_aload_n rfl rfl ?_
            refine q_ldc_s rfl rfl rfl (by decide) ?_
            refine v_cv rfl rfl rfl rfl (by decide) ⟨⟨rfl, rfl⟩, by decide, rfl⟩ (Nat.le_of_ble_eq_true rfl) (Nat.le_of_ble_eq_true rfl) ?_
            refine q_aload_n rfl rfl ?_
            refine v_cv rfl rfl rfl rfl (by decide) ⟨⟨rfl, rfl⟩, by decide, rfl⟩ (Nat.le_of_ble_eq_true rfl) (Nat.le_of_ble_eq_true rfl) ?_
            refine q_aload_n rfl rfl ?_
            refine v_gi (z := 4) (v := c_83 1 4) rfl rfl rfl (by decide) rfl rfl (hz_761) ?_
            refine v_if_ne_t (t := 11) rfl (by decide) ⟨by first | (clear ha2 hq0 hq1 hq2 hq3 hq4 hq5 hq8 h_1 h_2 h_3 h_4 h_5 h_6 h_7 h_8 h_9 h_10 h_11 h_46 h_65 h_66 h_70 h_75 h_76 h_81 h_82 h_87 h_757 hq6 hq7 h_12 h_21 h_37; omega) | omega, ⟨(Int.le_trans (by decide) h_87.1), (Int.le_trans h_87.2 (by decide))⟩, by decide, by decide⟩ ?_
            refine q_iconst rfl ?_
            refine v_zret rfl rfl (by decide) ?_
            refine bk_inl ?_
            refine v_if_eq_t (t := 25) rfl (by decide) (by decide) ?_
            refine q_vret rfl rfl ?_
            refine bk_inl ?_
            refine q_aload_n rfl rfl ?_
            refine v_sip rfl (by decide) ?_
            refine q_iload rfl rfl ?_
            refine v_iadd (v := (wd1_0 F (nx F e1 p0) (ln F e1 (nx F e1 p0))) + 2005) rfl (by first | (clear ha2 hq0 hq1 hq2 hq3 hq4 hq5 hq8 h_1 h_2 h_3 h_4 h_5 h_6 h_7 h_8 h_9 h_10 h_11 h_46 h_65 h_66 h_70 h_75 h_76 h_81 h_82 h_87 h_757 hq6 hq7 h_12 h_21 h_37; omega) | omega) ?_
            refine v_bip rfl (by decide) ?_
            refine v_isub (v := (wd1_0 F (nx F e1 p0) (ln F e1 (nx F e1 p0))) + 1997) rfl (by first | (clear ha2 hq0 hq1 hq2 hq3 hq4 hq5 hq8 h_1 h_2 h_3 h_4 h_5 h_6 h_7 h_8 h_9 h_10 h_11 h_46 h_65 h_66 h_70 h_75 h_76 h_81 h_82 h_87 h_757 hq6 hq7 h_12 h_21 h_37; omega) | omega) ?_
            refine v_cv rfl rfl rfl (ck_p7 hA) (a68 hA rfl) ⟨⟨rfl, rfl⟩, by decide, rfl⟩ (Nat.le_of_ble_eq_true rfl) (Nat.le_of_ble_eq_true rfl) ?_
            refine q_aload_n rfl rfl ?_
            have h_763 := ir_p7_5 hI_759 hA
            refine v_gi (z := 5) (v := c_758 (A + 7) 5) rfl rfl (ck_p7 hA) (a68 hA rfl) rfl rfl rfl ?_
            refine q_aload_n rfl rfl ?_
            refine v_gr (t := (A + 9)) rfl rfl (ck_p7 hA) (a68 hA rfl) rfl ?_
            refine v_al rfl (ck_p9 hA) (a68 hA rfl) (by decide) ?_
            by_cases h_764 : c_758 (A + 7) 5 ≥ 150
            · refine v_ic_ge_t (t := 32) rfl (by decide) ⟨by decide, h_764, (Int.le_trans h_763.2 (by decide))⟩ ?_
              refine q_vret rfl rfl ?_
              refine bk_inl ?_
              refine q_vret rfl rfl ?_
              intro hE_765
              have hW : Wd P Q P P c_758 = Wd P Q P P m9 := (Prod.mk.inj (Prod.mk.inj hE_765).2).1
              have h_766 := ir_1_4 hJ9
              have h_767 : m9 1 4 = c_83 1 4 := wd_fv (z := 4) 4 rfl hW rfl rfl rfl rfl (by decide) (hz_761) ⟨(Int.le_trans (by decide) h_87.1), (Int.le_trans h_87.2 (by decide))⟩ ⟨(Int.le_trans (by decide) h_766.1), (Int.le_trans h_766.2 (by decide))⟩
              have h_768 := ir_1_2 hI_759
              have h_769 := ir_1_2 hJ9
              have h_770 : m9 1 2 = c_758 1 2 := wd_fv (z := 2) 2 rfl hW rfl rfl rfl rfl (by decide) rfl ⟨(Int.le_trans (by decide) h_768.1), (Int.le_trans h_768.2 (by decide))⟩ ⟨(Int.le_trans (by decide) h_769.1), (Int.le_trans h_769.2 (by decide))⟩
              have h_771 := ir_1_5 hJ9
              have h_772 : m9 1 5 = c_83 1 5 := wd_fv (z := 5) 5 rfl hW rfl rfl rfl rfl (by decide) (hz_762) ⟨(Int.le_trans (by decide) h_757.1), (Int.le_trans h_757.2 (by decide))⟩ ⟨(Int.le_trans (by decide) h_771.1), (Int.le_trans h_771.2 (by decide))⟩
              have h_773 := ir_p7_5 hJ9 hA
              have h_774 : m9 (A + 7) 5 = c_758 (A + 7) 5 := wd_fv (z := 5) 5 rfl hW (ck_p7 hA) (ck_p7 hA) rfl rfl (by omega) rfl ⟨(Int.le_trans (by decide) h_763.1), (Int.le_trans h_763.2 (by decide))⟩ ⟨(Int.le_trans (by decide) h_773.1), (Int.le_trans h_773.2 (by decide))⟩
              refine q_aload_n rfl rfl ?_
              refine v_cv rfl rfl rfl rfl (by decide) ⟨⟨rfl, rfl⟩, by decide, rfl⟩ (Nat.le_of_ble_eq_true rfl) (Nat.le_of_ble_eq_true rfl) ?_
              refine q_aload_n rfl rfl ?_
              have h_775 := ir_41_5 hI
              have h_776 := ir_41_4 hI
              have h_777 := ir_41_6 hI
              have h_778 := rt_ok hRt (by omega)
              have hro_hRt := rt_ok hRt (by omega)
              refine v_gi (z := 5) (v := (-1)) rfl rfl rfl (by decide) rfl rfl hro_hRt.2.1 ?_
              refine q_iconst rfl ?_
              refine v_ic_ne_f (t := 12) rfl (by decide) (by decide) ?_
              refine q_iconst rfl ?_
              refine q_goto (t := 13) rfl (by decide) ?_
              refine v_zret rfl rfl (by decide) ?_
              refine bk_inl ?_
              refine v_if_ne_t (t := 8) rfl (by decide) (by decide) ?_
              refine q_aload_n rfl rfl ?_
              have h_779 : -2147483648 ≤ (H (nx F e1 p0)) ∧ (H (nx F e1 p0)) ≤ 2147483647 := by rw [← hH (nx F e1 p0)]; exact ir_43 hI (nx F e1 p0)
              have h_780 := hU (nx F e1 p0) (by omega) (by omega)
              have h_781 := hb_or (b := H) (e := e1) (r := (nx F e1 p0))
              have h_782 := hb_bd (b := H) (e := e1) (r := (nx F e1 p0)) (lo := -2147483648) (hi := 2147483647) h_779 (by decide)
              refine v_cv rfl rfl rfl rfl (by decide) ⟨⟨rfl, rfl⟩, by decide, rfl⟩ (Nat.le_of_ble_eq_true rfl) (Nat.le_of_ble_eq_true rfl) (f_154 (e1 := e1) (a9 := p0) (B := H) (r8 := (nx F e1 p0)) (r := (hb H e1 (nx F e1 p0))) hI ((hr_e1)) (((hro_hRt.2.2.1).trans ((hg_p0)))) (fun j => hH j) ((nx_tr hU (by first | (clear ha2 hq0 hq1 hq2 hq3 hq4 hq5 hq8 h_1 h_2 h_3 h_4 h_6 h_7 h_8 h_9 h_10 h_11 h_46 h_65 h_66 h_70 h_75 h_76 h_81 h_82 h_87 h_757 h_763 h_764 h_766 h_767 h_768 h_769 h_770 h_771 h_772 h_773 h_774 h_775 h_776 h_777 h_778 hq6 hq7 h_12 h_21 h_37; omega) | omega) (by first | (clear ha2 hq0 hq1 hq2 hq3 hq4 hq8 h_1 h_2 h_3 h_4 h_5 h_6 h_7 h_8 h_9 h_10 h_11 h_46 h_65 h_66 h_70 h_75 h_76 h_81 h_82 h_87 h_757 h_763 h_764 h_766 h_767 h_768 h_769 h_770 h_771 h_772 h_773 h_774 h_775 h_776 h_777 h_778 hq6 hq7 h_12 h_21 h_37; omega) | omega)).trans (rfl)) rfl (fun c_783 hI_784 hF_785 h_786 => ?_))
              refine bk_inl ?_
              refine v_bip rfl (by decide) ?_
              refine v_ic_ne_t (t := 45) rfl (by decide) ⟨by first | (clear ha2 hq0 hq1 hq2 hq3 hq8 h_3 h_4 h_5 h_6 h_7 h_8 h_9 h_11 h_65 h_66 h_70 h_75 h_76 h_81 h_82 h_87 h_757 h_763 h_764 h_766 h_767 h_768 h_769 h_770 h_771 h_772 h_773 h_774 h_775 h_776 h_777 h_778; omega) | omega, ⟨h_782.1, h_782.2⟩, by decide, by decide⟩ ?_
              refine q_aload_n rfl rfl ?_
              have kn_787 : Hid (c_783 41 3 = e1) := (hF_785 41 3 (fun h => absurd h.2 (ni rfl))).trans (hr_e1)
              refine v_cv rfl rfl rfl rfl (by decide) ⟨⟨rfl, rfl⟩, by decide, rfl⟩ (Nat.le_of_ble_eq_true rfl) (Nat.le_of_ble_eq_true rfl) (f_154 (e1 := e1) (a9 := (nx F e1 p0)) (B := H) (r8 := (nx F e1 p0)) (r := (hb H e1 (nx F e1 p0))) hI_784 ((hid kn_787)) ((h_786)) (fun j => (hF_785 43 j (fun h => absurd h.1 (nn rfl))).trans (hH j)) ((nx_tr hU (by first | (clear ha2 hq0 hq1 hq2 hq3 hq4 hq5 hq8 h_1 h_2 h_3 h_4 h_6 h_7 h_8 h_9 h_11 h_46 h_65 h_66 h_70 h_75 h_76 h_81 h_82 h_87 h_757 h_763 h_764 h_766 h_767 h_768 h_769 h_770 h_771 h_772 h_773 h_774 h_775 h_776 h_777 h_778 h_779 h_780 h_782 hq6 hq7 h_12 h_21 h_37 h_781; omega) | omega) (by first | (clear ha2 hq0 hq1 hq2 hq3 hq4 hq8 h_1 h_2 h_3 h_4 h_5 h_6 h_7 h_8 h_9 h_10 h_11 h_46 h_65 h_66 h_70 h_75 h_76 h_81 h_82 h_87 h_757 h_763 h_764 h_766 h_767 h_768 h_769 h_770 h_771 h_772 h_773 h_774 h_775 h_776 h_777 h_778 h_779 h_780 h_782 hq6 hq7 h_12 h_21 h_37 h_781; omega) | omega)).trans ((nx_z (by omega)))) rfl (fun c_788 hI_789 hF_790 h_791 => ?_))
              refine bk_inl ?_
              refine q_call rfl rfl rfl rfl (f_156 (a0 := (hb H e1 (nx F e1 p0))) hI_789 (show (-2147483648) ≤ (hb H e1 (nx F e1 p0)) ∧ (hb H e1 (nx F e1 p0)) ≤ 2147483647 from h_782) (fun y_792 hy_792 h_793 => ?_))
              refine bk_inl ?_
              refine v_if_eq_t (t := 71) rfl (by decide) (by first | (clear ha2 hq0 hq1 hq2 hq3 hq8 h_3 h_4 h_5 h_6 h_7 h_8 h_9 h_11 h_65 h_66 h_70 h_75 h_76 h_81 h_82 h_87 h_757 h_763 h_764 h_766 h_767 h_768 h_769 h_770 h_771 h_772 h_773 h_774 h_775 h_776 h_777 h_778; omega) | omega) ?_
              refine q_aload_n rfl rfl ?_
              have kn_794 : Hid (c_788 41 3 = e1) := (hF_790 41 3 (fun h => absurd h.2 (ni rfl))).trans (hid kn_787)
              have h_795 := wv_bd (b := F) (r := (nx F e1 p0)) (l := (ln F e1 (nx F e1 p0))) (fun j h1 h2 => ⟨(ln_in (e := e1) (a := (nx F e1 p0)) h1 h2).1, (ln_in (e := e1) (a := (nx F e1 p0)) h1 h2).2.1⟩)
              have h_796 := wr1_9 (b := F) (r := (nx F e1 p0)) (l := (ln F e1 (nx F e1 p0))) (by omega) (fun j h1 h2 => ⟨(ln_in (e := e1) (a := (nx F e1 p0)) h1 h2).1, (ln_in (e := e1) (a := (nx F e1 p0)) h1 h2).2.1⟩) (by omega)
              have h_797 : (wv F (nx F e1 p0) (ln F e1 (nx F e1 p0))) = 441972 → (ln F e1 (nx F e1 p0)) - (nx F e1 p0) = 4 := wl_most (by omega) (fun j h1 h2 => ⟨(ln_in (e := e1) (a := (nx F e1 p0)) h1 h2).1, (ln_in (e := e1) (a := (nx F e1 p0)) h1 h2).2.1⟩)
              refine v_cv rfl rfl rfl rfl (by decide) ⟨⟨rfl, rfl⟩, by decide, rfl⟩ (Nat.le_of_ble_eq_true rfl) (Nat.le_of_ble_eq_true rfl) (f_157 (e1 := e1) (a9 := (nx F e1 p0)) (B := H) (r8 := (nx F e1 p0)) (L8 := (ln F e1 (nx F e1 p0))) (W8 := (wv F (nx F e1 p0) (ln F e1 (nx F e1 p0)))) hI_789 ((hid kn_794)) ((h_791)) (fun j => ((hF_790 43 j (fun h => absurd h.1 (nn rfl))).trans (hF_785 43 j (fun h => absurd h.1 (nn rfl)))).trans (hH j)) ((nx_tr hU (by first | (clear ha2 hq0 hq1 hq2 hq3 hq4 hq5 hq8 h_1 h_2 h_3 h_4 h_6 h_7 h_8 h_9 h_11 h_46 h_65 h_66 h_70 h_75 h_76 h_81 h_82 h_87 h_757 h_763 h_764 h_766 h_767 h_768 h_769 h_770 h_771 h_772 h_773 h_774 h_775 h_776 h_777 h_778 h_779 h_780 h_782 hq6 hq7 h_12 h_21 h_37 h_781 h_793; omega) | omega) (by first | (clear ha2 hq0 hq1 hq2 hq3 hq4 hq8 h_1 h_2 h_3 h_4 h_5 h_6 h_7 h_8 h_9 h_10 h_11 h_46 h_65 h_66 h_70 h_75 h_76 h_81 h_82 h_87 h_757 h_763 h_764 h_766 h_767 h_768 h_769 h_770 h_771 h_772 h_773 h_774 h_775 h_776 h_777 h_778 h_779 h_780 h_782 hq6 hq7 h_12 h_21 h_37 h_781 h_793; omega) | omega)).trans ((nx_z (by omega)))) ((ln_tr hU (by first | (clear ha2 hq0 hq1 hq2 hq3 hq4 hq5 hq8 h_1 h_2 h_3 h_4 h_6 h_7 h_8 h_9 h_11 h_46 h_65 h_66 h_70 h_75 h_76 h_81 h_82 h_87 h_757 h_763 h_764 h_766 h_767 h_768 h_769 h_770 h_771 h_772 h_773 h_774 h_775 h_776 h_777 h_778 h_779 h_780 h_782 hq6 hq7 h_12 h_21 h_37 h_781 h_793; omega) | omega) (by first | (clear ha2 hq0 hq1 hq2 hq3 hq4 hq8 h_1 h_2 h_3 h_4 h_5 h_6 h_7 h_8 h_9 h_10 h_11 h_46 h_65 h_66 h_70 h_75 h_76 h_81 h_82 h_87 h_757 h_763 h_764 h_766 h_767 h_768 h_769 h_770 h_771 h_772 h_773 h_774 h_775 h_776 h_777 h_778 h_779 h_780 h_782 hq6 hq7 h_12 h_21 h_37 h_781 h_793; omega) | omega)).trans (rfl)) ((wv_tr hU (by first | (clear ha2 hq0 hq1 hq2 hq3 hq4 hq5 hq8 h_1 h_2 h_3 h_4 h_6 h_7 h_8 h_9 h_11 h_46 h_65 h_66 h_70 h_75 h_76 h_81 h_82 h_87 h_757 h_763 h_764 h_766 h_767 h_768 h_769 h_770 h_771 h_772 h_773 h_774 h_775 h_776 h_777 h_778 h_779 h_780 h_782 h_795 h_797 hq6 hq7 h_12 h_21 h_37 h_781 h_793; omega) | omega) (by first | (clear ha2 hq0 hq1 hq2 hq3 hq4 hq8 h_1 h_2 h_3 h_4 h_5 h_6 h_7 h_8 h_9 h_10 h_11 h_65 h_66 h_70 h_75 h_76 h_81 h_82 h_87 h_757 h_763 h_764 h_766 h_767 h_768 h_769 h_770 h_771 h_772 h_773 h_774 h_775 h_776 h_777 h_778 h_779 h_780 h_782 h_795 h_797 hq6 hq7 h_12 h_21 h_37 h_781 h_793; omega) | omega) (fun j h1 h2 => ⟨(ln_in (e := e1) (a := (nx F e1 p0)) h1 h2).1, (ln_in (e := e1) (a := (nx F e1 p0)) h1 h2).2.1⟩)).trans (rfl)) (fun c_798 hI_799 hF_800 hz_801 => ?_))
              refine bk_inl ?_
              refine q_ldc_w_s rfl rfl rfl (by decide) ?_
              refine q_call rfl rfl rfl rfl (s_158_20 ?_)
              refine bk_inl ?_
              refine v_ic_ne_t (t := 94) rfl (by decide) ⟨by first | (clear ha2 hq0 hq1 hq2 hq3 hq4 hq5 hq8 h_1 h_2 h_3 h_4 h_5 h_6 h_7 h_8 h_9 h_10 h_11 h_46 h_65 h_66 h_70 h_75 h_76 h_81 h_82 h_87 h_757 h_763 h_764 h_766 h_767 h_768 h_769 h_770 h_771 h_772 h_773 h_774 h_775 h_776 h_777 h_778 h_779 h_780 h_782 h_795 hq6 hq7 h_12 h_21 h_37 h_781 h_793; omega) | omega, ⟨(Int.le_trans (by decide) h_795.1), (Int.le_trans h_795.2 (by decide))⟩, by decide, by decide⟩ ?_
              refine q_aload_n rfl rfl ?_
              have kn_802 : Hid (c_798 41 3 = e1) := (hF_800 41 3 (fun h => absurd h.2 (ni rfl))).trans (hid kn_794)
              refine v_cv rfl rfl rfl rfl (by decide) ⟨⟨rfl, rfl⟩, by decide, rfl⟩ (Nat.le_of_ble_eq_true rfl) (Nat.le_of_ble_eq_true rfl) (f_157 (e1 := e1) (a9 := (nx F e1 p0)) (B := H) (r8 := (nx F e1 p0)) (L8 := (ln F e1 (nx F e1 p0))) (W8 := (wv F (nx F e1 p0) (ln F e1 (nx F e1 p0)))) hI_799 ((hid kn_802)) ((hz_801)) (fun j => ((hF_800 43 j (fun h => absurd h.1 (nn rfl))).trans ((hF_790 43 j (fun h => absurd h.1 (nn rfl))).trans (hF_785 43 j (fun h => absurd h.1 (nn rfl))))).trans (hH j)) ((nx_tr hU (by first | (clear ha2 hq0 hq1 hq2 hq3 hq4 hq5 hq8 h_1 h_2 h_3 h_4 h_6 h_7 h_8 h_9 h_11 h_46 h_65 h_66 h_70 h_75 h_76 h_81 h_82 h_87 h_757 h_763 h_764 h_766 h_767 h_768 h_769 h_770 h_771 h_772 h_773 h_774 h_775 h_776 h_777 h_778 h_779 h_780 h_782 h_795 h_797 hq6 hq7 h_12 h_21 h_37 h_781 h_793; omega) | omega) (by first | (clear ha2 hq0 hq1 hq2 hq3 hq4 hq8 h_1 h_2 h_3 h_4 h_5 h_6 h_7 h_8 h_9 h_10 h_11 h_46 h_65 h_66 h_70 h_75 h_76 h_81 h_82 h_87 h_757 h_763 h_764 h_766 h_767 h_768 h_769 h_770 h_771 h_772 h_773 h_774 h_775 h_776 h_777 h_778 h_779 h_780 h_782 h_795 h_797 hq6 hq7 h_12 h_21 h_37 h_781 h_793; omega) | omega)).trans ((nx_z (by omega)))) ((ln_tr hU (by first | (clear ha2 hq0 hq1 hq2 hq3 hq4 hq5 hq8 h_1 h_2 h_3 h_4 h_6 h_7 h_8 h_9 h_11 h_46 h_65 h_66 h_70 h_75 h_76 h_81 h_82 h_87 h_757 h_763 h_764 h_766 h_767 h_768 h_769 h_770 h_771 h_772 h_773 h_774 h_775 h_776 h_777 h_778 h_779 h_780 h_782 h_795 h_797 hq6 hq7 h_12 h_21 h_37 h_781 h_793; omega) | omega) (by first | (clear ha2 hq0 hq1 hq2 hq3 hq4 hq8 h_1 h_2 h_3 h_4 h_5 h_6 h_7 h_8 h_9 h_10 h_11 h_46 h_65 h_66 h_70 h_75 h_76 h_81 h_82 h_87 h_757 h_763 h_764 h_766 h_767 h_768 h_769 h_770 h_771 h_772 h_773 h_774 h_775 h_776 h_777 h_778 h_779 h_780 h_782 h_795 h_797 hq6 hq7 h_12 h_21 h_37 h_781 h_793; omega) | omega)).trans (rfl)) ((wv_tr hU (by first | (clear ha2 hq0 hq1 hq2 hq3 hq4 hq5 hq8 h_1 h_2 h_3 h_4 h_6 h_7 h_8 h_9 h_11 h_46 h_65 h_66 h_70 h_75 h_76 h_81 h_82 h_87 h_757 h_763 h_764 h_766 h_767 h_768 h_769 h_770 h_771 h_772 h_773 h_774 h_775 h_776 h_777 h_778 h_779 h_780 h_782 h_795 h_797 hq6 hq7 h_12 h_21 h_37 h_781 h_793; omega) | omega) (by first | (clear ha2 hq0 hq1 hq2 hq3 hq4 hq8 h_1 h_2 h_3 h_4 h_5 h_6 h_7 h_8 h_9 h_10 h_11 h_65 h_66 h_70 h_75 h_76 h_81 h_82 h_87 h_757 h_763 h_764 h_766 h_767 h_768 h_769 h_770 h_771 h_772 h_773 h_774 h_775 h_776 h_777 h_778 h_779 h_780 h_782 h_795 h_797 hq6 hq7 h_12 h_21 h_37 h_781 h_793; omega) | omega) (fun j h1 h2 => ⟨(ln_in (e := e1) (a := (nx F e1 p0)) h1 h2).1, (ln_in (e := e1) (a := (nx F e1 p0)) h1 h2).2.1⟩)).trans (rfl)) (fun c_803 hI_804 hF_805 hz_806 => ?_))
              refine bk_inl ?_
              refine q_ldc_w_s rfl rfl rfl (by decide) ?_
              refine q_call rfl rfl rfl rfl (s_158_21 ?_)
              refine bk_inl ?_
              refine v_ic_ne_f (t := 117) rfl (by decide) (by first | (clear ha2 hq0 hq1 hq2 hq3 hq4 hq5 hq8 h_1 h_2 h_3 h_4 h_5 h_6 h_7 h_8 h_9 h_10 h_11 h_46 h_65 h_66 h_70 h_75 h_76 h_81 h_82 h_87 h_757 h_763 h_764 h_766 h_767 h_768 h_769 h_770 h_771 h_772 h_773 h_774 h_775 h_776 h_777 h_778 h_779 h_780 h_782 h_795 hq6 hq7 h_12 h_21 h_37 h_781 h_793; omega) | omega) ?_
              refine q_aload_n rfl rfl ?_
              refine q_iconst rfl ?_
              refine v_bip rfl (by decide) ?_
              refine v_cv rfl rfl rfl rfl (by decide) ⟨⟨rfl, rfl⟩, by decide, rfl⟩ (Nat.le_of_ble_eq_true rfl) (Nat.le_of_ble_eq_true rfl) ?_
              refine q_aload_n rfl rfl ?_
              refine q_iload_n rfl rfl ?_
              refine v_cv rfl rfl rfl rfl (by decide) ⟨⟨rfl, rfl⟩, by decide, rfl⟩ (Nat.le_of_ble_eq_true rfl) (Nat.le_of_ble_eq_true rfl) ?_
              refine q_aload_n rfl rfl ?_
              refine v_cv rfl rfl rfl rfl (by decide) ⟨⟨rfl, rfl⟩, by decide, rfl⟩ (Nat.le_of_ble_eq_true rfl) (Nat.le_of_ble_eq_true rfl) ?_
              refine q_aload_n rfl rfl ?_
              have kn_807 : Hid (c_783 41 5 = (-1)) := (hF_785 41 5 (fun h => absurd h.2 (ni rfl))).trans hro_hRt.2.1
              have kn_808 : Hid (c_788 41 5 = (-1)) := (hF_790 41 5 (fun h => absurd h.2 (ni rfl))).trans (hid kn_807)
              have kn_809 : Hid (c_798 41 5 = (-1)) := (hF_800 41 5 (fun h => absurd h.2 (ni rfl))).trans (hid kn_808)
              have kn_810 : Hid (c_803 41 5 = (-1)) := (hF_805 41 5 (fun h => absurd h.2 (ni rfl))).trans (hid kn_809)
              refine v_gi (z := 5) (v := (-1)) rfl rfl rfl (by decide) rfl rfl (hid kn_810) ?_
              refine q_iconst rfl ?_
              refine v_ic_ne_f (t := 12) rfl (by decide) (by decide) ?_
              refine q_iconst rfl ?_
              refine q_goto (t := 13) rfl (by decide) ?_
              refine v_zret rfl rfl (by decide) ?_
              refine bk_inl ?_
              refine v_if_eq_f (t := 25) rfl (by decide) (by decide) ?_
              refine q_aload_n rfl rfl ?_
              have kn_811 : Hid (c_783 41 7 = o0) := (hF_785 41 7 (fun h => absurd h.2 (ni rfl))).trans (hr_o0)
              have kn_812 : Hid (c_788 41 7 = o0) := (hF_790 41 7 (fun h => absurd h.2 (ni rfl))).trans (hid kn_811)
              have kn_813 : Hid (c_798 41 7 = o0) := (hF_800 41 7 (fun h => absurd h.2 (ni rfl))).trans (hid kn_812)
              have kn_814 : Hid (c_803 41 7 = o0) := (hF_805 41 7 (fun h => absurd h.2 (ni rfl))).trans (hid kn_813)
              refine v_gi (z := 7) (v := o0) rfl rfl rfl (by decide) rfl rfl (hid kn_814) ?_
              refine v_bip rfl (by decide) ?_
              refine v_ic_ne_t (t := 25) rfl (by decide) ⟨by first | (clear ha2 hq0 hq1 hq3 hq4 hq5 hq8 h_1 h_2 h_3 h_4 h_5 h_6 h_7 h_8 h_9 h_10 h_11 h_46 h_65 h_66 h_75 h_76 h_81 h_82 h_87 h_757 h_763 h_764 h_766 h_767 h_768 h_769 h_770 h_771 h_772 h_773 h_774 h_775 h_776 h_777 h_778 h_779 h_780 h_782 h_795 h_797 hq6 hq7 h_12 h_21 h_37 h_781 h_793; omega) | omega, ⟨(Int.le_trans (by decide) (rg_eq hr_o0 h_8).1), (Int.le_trans (rg_eq hr_o0 h_8).2 (by decide))⟩, by decide, by decide⟩ ?_
              refine q_aload_n rfl rfl ?_
              refine v_cv rfl rfl rfl rfl (by decide) ⟨⟨rfl, rfl⟩, by decide, rfl⟩ (Nat.le_of_ble_eq_true rfl) (Nat.le_of_ble_eq_true rfl) ?_
              refine q_aload_n rfl rfl ?_
              refine v_gi (z := 5) (v := (-1)) rfl rfl rfl (by decide) rfl rfl (hid kn_810) ?_
              refine q_iconst rfl ?_
              refine v_ic_ne_f (t := 12) rfl (by decide) (by decide) ?_
              refine q_iconst rfl ?_
              refine q_goto (t := 13) rfl (by decide) ?_
              refine v_zret rfl rfl (by decide) ?_
              refine bk_inl ?_
              refine v_if_eq_f (t := 42) rfl (by decide) (by decide) ?_
              refine q_aload_n rfl rfl ?_
              refine q_dup rfl rfl ?_
              refine v_gi (z := 4) (v := (nx F e1 p0)) rfl rfl rfl (by decide) rfl rfl (hz_806) ?_
              refine q_iload_n rfl rfl ?_
              refine v_iadd (v := (nx F e1 p0) + 4) rfl rfl ?_
              refine v_pi (z := 4) rfl rfl rfl (by decide) rfl rfl rfl (by decide) ?_
              refine q_aload_n rfl rfl ?_
              refine q_dup rfl rfl ?_
              refine v_gi (z := 7) (v := o0) rfl rfl rfl (by decide) rfl rfl ((up_n (by decide)).trans (hid kn_814)) ?_
              refine q_iconst rfl ?_
              refine v_iadd (v := o0 + 1) rfl rfl ?_
              refine v_pi (z := 7) rfl rfl rfl (by decide) rfl rfl rfl (by decide) ?_
              refine q_vret rfl rfl ?_
              refine bk_inl ?_
              refine q_aload_n rfl rfl ?_
              refine v_bip rfl (by decide) ?_
              have hI_815 := iw_41_4 (v := (nx F e1 p0) + 4) hI_804 ⟨by first | exact rgp_l (rg_be h_10 ((rg_eq hg_p0 h_5).1) ((rg_eq hg_e1 h_1).2)).1 (by decide) | omega, by first | exact rgp_h (rg_be h_10 ((rg_eq hg_p0 h_5).1) ((rg_eq hg_e1 h_1).2)).2 (by decide) | omega⟩
              have hI_816 := iw_41_7 (v := o0 + 1) hI_815 ⟨by first | exact rgp_l (rg_eq hr_o0 h_8).1 (by decide) | omega, by first | (clear ha2 hq0 hq1 hq3 hq4 hq5 hq8 h_1 h_2 h_3 h_4 h_5 h_6 h_7 h_8 h_9 h_10 h_11 h_46 h_65 h_66 h_75 h_76 h_81 h_82 h_87 h_757 h_763 h_764 h_766 h_767 h_768 h_769 h_770 h_771 h_772 h_773 h_774 h_775 h_776 h_777 h_778 h_779 h_780 h_782 h_795 h_797 hq6 hq7 h_12 h_21 h_37 h_781 h_793; omega) | omega⟩
              have kn_817 : Hid (c_62 1 1 = e1) := (hF_64 1 1 (fun q => q.elim (fun h => absurd h.2 (ni rfl)) (fun q => q.elim (fun h => absurd h.2 (ni rfl)) (fun h => absurd h.2 (ni rfl))))).trans (hid kn_39)
              have kn_818 : Hid (c_803 41 3 = e1) := (hF_805 41 3 (fun h => absurd h.2 (ni rfl))).trans (hid kn_802)
              have h_819 : c_62 1 4 = 0 := (hz_68)
              have h_820 : c_62 1 2 = (ln F e1 (nx F e1 p0)) := (hz_67)
              have h_821 : c_62 1 5 = g0 := (hz_69)
              have h_822 : (up (up c_803 41 4 ((nx F e1 p0) + 4)) 41 7 (o0 + 1)) 41 5 = (-1) := ((up_n (by decide)).trans ((up_n (by decide)).trans (hid kn_810)))
              have h_823 : (up (up c_803 41 4 ((nx F e1 p0) + 4)) 41 7 (o0 + 1)) 41 4 = (nx F e1 p0) + 4 := ((up_n (by decide)).trans (up_e rfl))
              have kn_824 : Hid (c_783 41 6 = c 41 6) := hF_785 41 6 (fun h => absurd h.2 (ni rfl))
              have kn_825 : Hid (c_788 41 6 = c 41 6) := (hF_790 41 6 (fun h => absurd h.2 (ni rfl))).trans (hid kn_824)
              have kn_826 : Hid (c_798 41 6 = c 41 6) := (hF_800 41 6 (fun h => absurd h.2 (ni rfl))).trans (hid kn_825)
              have kn_827 : Hid (c_803 41 6 = c 41 6) := (hF_805 41 6 (fun h => absurd h.2 (ni rfl))).trans (hid kn_826)
              have h_828 : (up (up c_803 41 4 ((nx F e1 p0) + 4)) 41 7 (o0 + 1)) 41 6 = c 41 6 := ((up_n (by decide)).trans ((up_n (by decide)).trans (hid kn_827)))
              refine v_cv rfl rfl rfl rfl (by decide) ⟨⟨rfl, rfl⟩, by decide, rfl⟩ (Nat.le_of_ble_eq_true rfl) (Nat.le_of_ble_eq_true rfl) (L_11_3 (m := c_62) (e1 := e1) (a9 := (ln F e1 (nx F e1 p0))) (f0 := 0) (F := F) (H := H) hI_816 hI_63 hI_72 ((hid kn_817)) (((up_n (by decide)).trans ((up_n (by decide)).trans (hid kn_818)))) ((hz_67)) ((hz_68)) (fun j => ((hF_64 2 j (fun q => q.elim (fun h => absurd h.1 (nn rfl)) (fun q => q.elim (fun h => absurd h.1 (nn rfl)) (fun h => absurd h.1 (nn rfl))))).trans ((hF_36 2 j (fun h => absurd h.1 (nn rfl))).trans ((hF_26 2 j (fun h => absurd h.1 (nn rfl))).trans (hF_20 2 j (fun h => absurd h.1 (nn rfl)))))).trans (hF j)) (fun j => ((up_c (nn rfl)).trans ((up_c (nn rfl)).trans ((hF_805 43 j (fun h => absurd h.1 (nn rfl))).trans ((hF_800 43 j (fun h => absurd h.1 (nn rfl))).trans ((hF_790 43 j (fun h => absurd h.1 (nn rfl))).trans (hF_785 43 j (fun h => absurd h.1 (nn rfl)))))))).trans (hH j)) hU (rt_i1 ⟨by first | (clear ha2 hq0 hq1 hq2 hq3 hq4 hq5 hq8 h_1 h_2 h_3 h_4 h_5 h_6 h_7 h_8 h_9 h_10 h_11 h_46 h_65 h_66 h_70 h_75 h_76 h_81 h_82 h_87 h_757 h_763 h_764 h_766 h_767 h_768 h_769 h_770 h_771 h_772 h_773 h_774 h_775 h_776 h_777 h_778 h_779 h_780 h_782 h_795 h_797 hq6 hq7 h_12 h_21 h_37 h_781 h_793; omega) | omega, by first | (clear ha2 hq0 hq1 hq2 hq3 hq4 hq5 hq8 h_1 h_2 h_3 h_4 h_5 h_6 h_7 h_8 h_9 h_10 h_11 h_46 h_65 h_66 h_70 h_75 h_76 h_81 h_82 h_87 h_757 h_763 h_764 h_766 h_767 h_768 h_769 h_770 h_771 h_772 h_773 h_774 h_775 h_776 h_777 h_778 h_779 h_780 h_782 h_795 h_797 hq6 hq7 h_12 h_21 h_37 h_781 h_793; omega) | omega, by first | (clear ha2 hq0 hq1 hq2 hq3 hq4 hq5 hq8 h_1 h_2 h_3 h_4 h_5 h_6 h_7 h_8 h_9 h_10 h_11 h_46 h_65 h_66 h_70 h_75 h_76 h_81 h_82 h_87 h_757 h_763 h_764 h_766 h_767 h_768 h_769 h_770 h_771 h_772 h_773 h_774 h_775 h_776 h_777 h_778 h_779 h_780 h_782 h_795 hq6 hq7 h_12 h_21 h_37 h_781 h_793; omega) | omega, by first | (clear ha2 hq0 hq2 hq3 hq4 hq5 hq8 h_1 h_2 h_3 h_4 h_5 h_6 h_7 h_8 h_9 h_10 h_11 h_46 h_65 h_66 h_70 h_75 h_76 h_81 h_82 h_87 h_757 h_763 h_764 h_766 h_767 h_768 h_769 h_770 h_771 h_772 h_773 h_774 h_775 h_776 h_777 h_778 h_779 h_780 h_782 h_795 h_797 hq6 hq7 h_12 h_21 h_37 h_781 h_793; omega) | omega⟩) hG_74 (fun c_829 hI_830 hF_831 hR_833 h_834 h_835 => ?_))
              refine bk_inl ?_
              have h_836 := ir_1_2 hI_72
              refine q_aload_n rfl rfl ?_
              have h_837 := ir_41_5 hI_830
              have h_838 := ir_1_5 hI_72
              have h_839 := ir_41_4 hI_830
              have h_840 := ir_41_6 hI_830
              have h_841 := rt_ok hR_833 (by omega)
              have hro_hR_833 := rt_ok hR_833 (by omega)
              have kn_842 : Hid (c_71 1 1 = e1) := (hF_73 1 1 (fun q => q.elim (fun h => absurd h.2 (ni rfl)) (fun q => q.elim (fun h => absurd h.2 (ni rfl)) (fun h => absurd h.2 (ni rfl))))).trans (hid kn_817)
              have kn_843 : Hid (c_829 41 3 = e1) := (hF_831 41 3 (fun q => q.elim (fun h => absurd h.2 (ni rfl)) (fun q => q.elim (fun h => absurd h.2 (ni rfl)) (fun h => absurd h.2 (ni rfl))))).trans ((up_n (by decide)).trans ((up_n (by decide)).trans (hid kn_818)))
              have kn_844 : Hid (c_18 (A + 7) 5 = n0) := (hF_20 (A + 7) 5 (fun h => absurd h.1 (np hA rfl rfl))).trans (hg_n0)
              have kn_845 : Hid (c_24 (A + 7) 5 = n0) := (hF_26 (A + 7) 5 (fun h => absurd h.1 (np hA rfl rfl))).trans (hid kn_844)
              have kn_846 : Hid (c_34 (A + 7) 5 = n0) := (hF_36 (A + 7) 5 (fun h => absurd h.1 (np hA rfl rfl))).trans (hid kn_845)
              have kn_847 : Hid (c_62 (A + 7) 5 = n0) := (hF_64 (A + 7) 5 (fun q => q.elim (fun h => absurd h.1 (np hA rfl rfl)) (fun q => q.elim (fun h => absurd h.1 (np hA rfl rfl)) (fun h => absurd h.1 (np hA rfl rfl))))).trans (hid kn_846)
              have kn_848 : Hid (c_71 (A + 7) 5 = n0) := (hF_73 (A + 7) 5 (fun q => q.elim (fun h => absurd h.1 (np hA rfl rfl)) (fun q => q.elim (fun h => absurd h.1 (np hA rfl rfl)) (fun h => absurd h.1 (np hA rfl rfl))))).trans (hid kn_847)
              have kn_849 : Hid (c_783 41 29 = n0) := (hF_785 41 29 (fun h => absurd h.2 (ni rfl))).trans (hr_n0)
              have kn_850 : Hid (c_788 41 29 = n0) := (hF_790 41 29 (fun h => absurd h.2 (ni rfl))).trans (hid kn_849)
              have kn_851 : Hid (c_798 41 29 = n0) := (hF_800 41 29 (fun h => absurd h.2 (ni rfl))).trans (hid kn_850)
              have kn_852 : Hid (c_803 41 29 = n0) := (hF_805 41 29 (fun h => absurd h.2 (ni rfl))).trans (hid kn_851)
              have kn_853 : Hid (c_829 41 29 = n0) := (hF_831 41 29 (fun q => q.elim (fun h => absurd h.2 (ni rfl)) (fun q => q.elim (fun h => absurd h.2 (ni rfl)) (fun h => absurd h.2 (ni rfl))))).trans ((up_n (by decide)).trans ((up_n (by decide)).trans (hid kn_852)))
              have kn_854 : Hid (c_829 41 7 = o0 + 1) := (hF_831 41 7 (fun q => q.elim (fun h => absurd h.2 (ni rfl)) (fun q => q.elim (fun h => absurd h.2 (ni rfl)) (fun h => absurd h.2 (ni rfl))))).trans (up_e rfl)
              have hA_855 : Ce n0 (c_71 (A + 9)) (c_829 50) (c_829 51) := ce_fr hr0 (fun j => (hF_73 (A + 9) j (fun q => q.elim (fun h => absurd h.1 (np hA rfl rfl)) (fun q => q.elim (fun h => absurd h.1 (np hA rfl rfl)) (fun h => absurd h.1 (np hA rfl rfl))))).trans ((hF_64 (A + 9) j (fun q => q.elim (fun h => absurd h.1 (np hA rfl rfl)) (fun q => q.elim (fun h => absurd h.1 (np hA rfl rfl)) (fun h => absurd h.1 (np hA rfl rfl))))).trans ((hF_36 (A + 9) j (fun h => absurd h.1 (np hA rfl rfl))).trans ((hF_26 (A + 9) j (fun h => absurd h.1 (np hA rfl rfl))).trans (hF_20 (A + 9) j (fun h => absurd h.1 (np hA rfl rfl))))))) (fun j => (hF_831 50 j (fun q => q.elim (fun h => absurd h.1 (nn rfl)) (fun q => q.elim (fun h => absurd h.1 (nn rfl)) (fun h => absurd h.1 (nn rfl))))).trans ((up_c (nn rfl)).trans ((up_c (nn rfl)).trans ((hF_805 50 j (fun h => absurd h.1 (nn rfl))).trans ((hF_800 50 j (fun h => absurd h.1 (nn rfl))).trans ((hF_790 50 j (fun h => absurd h.1 (nn rfl))).trans (hF_785 50 j (fun h => absurd h.1 (nn rfl))))))))) (fun j => (hF_831 51 j (fun q => q.elim (fun h => absurd h.1 (nn rfl)) (fun q => q.elim (fun h => absurd h.1 (nn rfl)) (fun h => absurd h.1 (nn rfl))))).trans ((up_c (nn rfl)).trans ((up_c (nn rfl)).trans ((hF_805 51 j (fun h => absurd h.1 (nn rfl))).trans ((hF_800 51 j (fun h => absurd h.1 (nn rfl))).trans ((hF_790 51 j (fun h => absurd h.1 (nn rfl))).trans (hF_785 51 j (fun h => absurd h.1 (nn rfl)))))))))
              refine v_cv rfl rfl rfl rfl (by decide) ⟨⟨rfl, rfl⟩, by decide, rfl⟩ (Nat.le_of_ble_eq_true rfl) (Nat.le_of_ble_eq_true rfl) (H13 (m := c_71) (e1 := e1) (f0 := c_71 1 4) (g0 := c_71 1 5) (p0 := c_71 1 2) (n0 := n0) (o0 := o0 + 1) (by omega) (by omega) hI_830 hI_72 hI_78 (show 0 ≤ a2 + 1 ∧ a2 + 1 ≤ 6 from ⟨by first | exact rgp_l ha2.1 (by decide) | omega, by first | (clear ha2 hq0 hq1 hq2 hq3 hq4 hq5 hq8 h_1 h_2 h_3 h_4 h_5 h_6 h_7 h_8 h_9 h_10 h_11 h_46 h_65 h_66 h_75 h_76 h_81 h_82 h_87 h_757 h_763 h_764 h_766 h_767 h_768 h_769 h_770 h_771 h_772 h_773 h_774 h_775 h_776 h_777 h_778 h_779 h_780 h_782 h_795 h_797 h_836 h_837 h_838 h_839 h_840 h_841 hq6 hq7 h_12 h_21 h_37 h_781 h_793 h_834 h_835; omega) | omega⟩) (by first | (clear ha2 hq0 hq1 hq2 hq3 hq4 hq5 hq8 h_1 h_2 h_3 h_4 h_5 h_6 h_7 h_8 h_9 h_10 h_11 h_46 h_65 h_66 h_70 h_81 h_82 h_87 h_757 h_763 h_764 h_766 h_767 h_768 h_769 h_770 h_771 h_772 h_773 h_774 h_775 h_776 h_777 h_778 h_779 h_780 h_782 h_795 h_797 h_836 h_837 h_838 h_839 h_840 h_841 hq6 hq7 h_12 h_21 h_37 h_781 h_793 h_834 h_835; omega) | omega) (by first | (clear ha2 hq0 hq1 hq2 hq3 hq4 hq5 hq8 h_1 h_2 h_3 h_4 h_5 h_6 h_7 h_8 h_9 h_10 h_11 h_46 h_65 h_66 h_70 h_75 h_76 h_81 h_82 h_87 h_757 h_763 h_764 h_766 h_767 h_768 h_769 h_770 h_771 h_772 h_773 h_774 h_775 h_776 h_777 h_778 h_779 h_780 h_782 h_795 h_797 h_836 h_837 h_839 h_840 hq6 hq7 h_12 h_21 h_37 h_781 h_793 h_834 h_835; omega) | omega) (by first | (clear ha2 hq0 hq1 hq3 hq4 hq5 hq8 h_1 h_2 h_3 h_4 h_5 h_6 h_7 h_8 h_9 h_10 h_11 h_46 h_65 h_66 h_70 h_75 h_76 h_81 h_82 h_87 h_757 h_763 h_764 h_766 h_767 h_768 h_769 h_770 h_771 h_772 h_773 h_774 h_775 h_776 h_777 h_778 h_779 h_780 h_782 h_795 h_797 h_836 h_837 h_838 h_839 h_840 h_841 hq6 hq7 h_12 h_21 h_37 h_781 h_793 h_834 h_835; omega) | omega) (by first | (clear ha2 hq0 hq1 hq2 hq8 h_3 h_4 h_8 h_9 h_11 h_65 h_66 h_70 h_81 h_82 h_87 h_757 h_763 h_764 h_766 h_767 h_768 h_769 h_770 h_771 h_772 h_773 h_774 h_775 h_776 h_777 h_778 h_779 h_780 h_782 h_795 h_840 h_793; omega) | omega) (by first | (clear ha2 hq0 hq1 hq2 hq3 hq8 h_3 h_4 h_5 h_6 h_7 h_8 h_9 h_11 h_65 h_66 h_70 h_75 h_76 h_81 h_82 h_87 h_757 h_763 h_764 h_766 h_767 h_768 h_769 h_770 h_771 h_772 h_773 h_774 h_775 h_776 h_777 h_778 h_779 h_780 h_782 h_795 h_797 h_837 h_838 h_839 h_840 h_793 h_835; omega) | omega) (by first | (clear ha2 hq0 hq1 hq2 hq3 hq4 hq8 h_1 h_2 h_3 h_4 h_5 h_6 h_7 h_8 h_9 h_10 h_11 h_46 h_65 h_66 h_70 h_75 h_76 h_81 h_82 h_87 h_757 h_763 h_764 h_766 h_767 h_768 h_769 h_770 h_771 h_772 h_773 h_774 h_775 h_776 h_777 h_778 h_779 h_780 h_782 h_795 h_797 h_836 h_837 h_838 h_839 h_840 h_841 hq6 hq7 h_12 h_21 h_37 h_781 h_793 h_834 h_835; omega) | omega) ((hid kn_842)) ((hid kn_843)) (rfl) (rfl) (rfl) ((hid kn_848)) ((hid kn_853)) ((hid kn_854)) (fun j => ((hF_73 2 j (fun q => q.elim (fun h => absurd h.1 (nn rfl)) (fun q => q.elim (fun h => absurd h.1 (nn rfl)) (fun h => absurd h.1 (nn rfl))))).trans ((hF_64 2 j (fun q => q.elim (fun h => absurd h.1 (nn rfl)) (fun q => q.elim (fun h => absurd h.1 (nn rfl)) (fun h => absurd h.1 (nn rfl))))).trans ((hF_36 2 j (fun h => absurd h.1 (nn rfl))).trans ((hF_26 2 j (fun h => absurd h.1 (nn rfl))).trans (hF_20 2 j (fun h => absurd h.1 (nn rfl))))))).trans (hF j)) (fun j => ((hF_831 43 j (fun q => q.elim (fun h => absurd h.1 (nn rfl)) (fun q => q.elim (fun h => absurd h.1 (nn rfl)) (fun h => absurd h.1 (nn rfl))))).trans ((up_c (nn rfl)).trans ((up_c (nn rfl)).trans ((hF_805 43 j (fun h => absurd h.1 (nn rfl))).trans ((hF_800 43 j (fun h => absurd h.1 (nn rfl))).trans ((hF_790 43 j (fun h => absurd h.1 (nn rfl))).trans (hF_785 43 j (fun h => absurd h.1 (nn rfl))))))))).trans (hH j)) hU hR_833 (ce_le hA_855 (by omega)) hG_80 (fun c_856 hI_857 hF_858 hR_860 h_861 h_862 hA_863 => ?_))
              refine bk_inl ?_
              have h_864 := ir_41_29 hI_857
              have h_865 := ir_p7_5 hI_78 hA
              have h_866 := ir_1_2 hI_78
              have h_867 := ir_41_7 hI_857
              refine q_aload_n rfl rfl ?_
              refine v_bip rfl (by decide) ?_
              have h_868 := ir_41_5 hI_857
              have h_869 := ir_1_5 hI_78
              have h_870 := ir_41_4 hI_857
              have h_871 := ir_41_6 hI_857
              have h_872 := rt_ok hR_860 (by omega)
              have hro_hR_860 := rt_ok hR_860 (by omega)
              have kn_873 : Hid (c_77 1 1 = e1) := (hF_79 1 1 (fun q => q.elim (fun h => absurd h.2 (ni rfl)) (fun q => q.elim (fun h => absurd h.2 (ni rfl)) (fun q => q.elim (fun h => absurd h.2 (ni rfl)) (fun q => q.elim (fun h => absurd h.1 (pn hA rfl rfl)) (fun h => absurd h (pn hA rfl rfl))))))).trans (hid kn_842)
              have kn_874 : Hid (c_856 41 3 = e1) := (hF_858 41 3 (fun q => q.elim (fun h => absurd h.2 (ni rfl)) (fun q => q.elim (fun h => absurd h.2 (ni rfl)) (fun q => q.elim (fun h => absurd h.2 (ni rfl)) (fun q => q.elim (fun h => absurd h.2 (ni rfl)) (fun q => q.elim (fun h => absurd h.2 (ni rfl)) (fun q => q.elim (fun h => absurd h (nn rfl)) (fun h => absurd h (nn rfl))))))))).trans (hid kn_843)
              refine v_cv rfl rfl rfl rfl (by decide) ⟨⟨rfl, rfl⟩, by decide, rfl⟩ (Nat.le_of_ble_eq_true rfl) (Nat.le_of_ble_eq_true rfl) (L_11_4 (m := c_77) (e1 := e1) (a9 := c_77 1 2) (f0 := c_77 1 4) (F := F) (H := H) hI_857 hI_78 hI_84 ((hid kn_873)) ((hid kn_874)) (rfl) (rfl) (fun j => ((hF_79 2 j (fun q => q.elim (fun h => absurd h.1 (nn rfl)) (fun q => q.elim (fun h => absurd h.1 (nn rfl)) (fun q => q.elim (fun h => absurd h.1 (nn rfl)) (fun q => q.elim (fun h => absurd h.1 (pn hA rfl rfl)) (fun h => absurd h (pn hA rfl rfl))))))).trans ((hF_73 2 j (fun q => q.elim (fun h => absurd h.1 (nn rfl)) (fun q => q.elim (fun h => absurd h.1 (nn rfl)) (fun h => absurd h.1 (nn rfl))))).trans ((hF_64 2 j (fun q => q.elim (fun h => absurd h.1 (nn rfl)) (fun q => q.elim (fun h => absurd h.1 (nn rfl)) (fun h => absurd h.1 (nn rfl))))).trans ((hF_36 2 j (fun h => absurd h.1 (nn rfl))).trans ((hF_26 2 j (fun h => absurd h.1 (nn rfl))).trans (hF_20 2 j (fun h => absurd h.1 (nn rfl)))))))).trans (hF j)) (fun j => ((hF_858 43 j (fun q => q.elim (fun h => absurd h.1 (nn rfl)) (fun q => q.elim (fun h => absurd h.1 (nn rfl)) (fun q => q.elim (fun h => absurd h.1 (nn rfl)) (fun q => q.elim (fun h => absurd h.1 (nn rfl)) (fun q => q.elim (fun h => absurd h.1 (nn rfl)) (fun q => q.elim (fun h => absurd h (nn rfl)) (fun h => absurd h (nn rfl))))))))).trans ((hF_831 43 j (fun q => q.elim (fun h => absurd h.1 (nn rfl)) (fun q => q.elim (fun h => absurd h.1 (nn rfl)) (fun h => absurd h.1 (nn rfl))))).trans ((up_c (nn rfl)).trans ((up_c (nn rfl)).trans ((hF_805 43 j (fun h => absurd h.1 (nn rfl))).trans ((hF_800 43 j (fun h => absurd h.1 (nn rfl))).trans ((hF_790 43 j (fun h => absurd h.1 (nn rfl))).trans (hF_785 43 j (fun h => absurd h.1 (nn rfl)))))))))).trans (hH j)) hU hR_860 hG_86 (fun c_875 hI_876 hF_877 hR_879 h_880 h_881 => ?_))
              refine bk_inl ?_
              have h_882 := ir_1_2 hI_84
              refine q_aload_n rfl rfl ?_
              have h_883 := ir_41_5 hI_876
              have h_884 := ir_41_4 hI_876
              have h_885 := ir_41_6 hI_876
              have h_886 := rt_bad hR_879 (by omega)
              have hrb_hR_879 := rt_bad hR_879 (by omega)
              have h_887 : ¬ c_875 41 5 = -1 := by rw [show c_875 41 5 = c_83 1 5 from hrb_hR_879.2.1]; omega
              refine v_cv rfl rfl rfl rfl (by decide) ⟨⟨rfl, rfl⟩, by decide, rfl⟩ (Nat.le_of_ble_eq_true rfl) (Nat.le_of_ble_eq_true rfl) (n_174 hI_876 (by omega) ?_)
              refine bk_inl ?_
              refine q_aload_n rfl rfl ?_
              refine v_bip rfl (by decide) ?_
              refine v_cv rfl rfl rfl rfl (by decide) ⟨⟨rfl, rfl⟩, by decide, rfl⟩ (Nat.le_of_ble_eq_true rfl) (Nat.le_of_ble_eq_true rfl) ?_
              refine q_aload_n rfl rfl ?_
              refine v_cv rfl rfl rfl rfl (by decide) ⟨⟨rfl, rfl⟩, by decide, rfl⟩ (Nat.le_of_ble_eq_true rfl) (Nat.le_of_ble_eq_true rfl) ?_
              refine q_aload_n rfl rfl ?_
              refine v_gi (z := 5) (v := c_83 1 5) rfl rfl rfl (by decide) rfl rfl hrb_hR_879.2.1 ?_
              refine q_iconst rfl ?_
              refine v_ic_ne_t (t := 12) rfl (by decide) ⟨by first | (clear ha2 hq0 hq1 hq2 hq3 hq4 hq5 hq8 h_1 h_2 h_3 h_4 h_5 h_6 h_7 h_8 h_9 h_10 h_11 h_46 h_65 h_66 h_70 h_75 h_76 h_81 h_82 h_87 h_757 h_763 h_764 h_766 h_767 h_768 h_769 h_770 h_771 h_772 h_773 h_774 h_775 h_776 h_777 h_778 h_779 h_780 h_782 h_795 h_797 h_836 h_837 h_838 h_839 h_840 h_841 h_864 h_865 h_866 h_867 h_862 h_868 h_869 h_870 h_871 h_872 h_882 h_883 h_884 h_885 hq6 hq7 h_12 h_21 h_37 h_781 h_793 h_834 h_835 h_861 h_880 h_881; omega) | omega, ⟨(Int.le_trans (by decide) h_757.1), (Int.le_trans h_757.2 (by decide))⟩, by decide, by decide⟩ ?_
              refine q_iconst rfl ?_
              refine v_zret rfl rfl (by decide) ?_
              refine bk_inl ?_
              refine v_if_eq_t (t := 24) rfl (by decide) (by decide) ?_
              refine q_aload_n rfl rfl ?_
              refine v_cv rfl rfl rfl rfl (by decide) ⟨⟨rfl, rfl⟩, by decide, rfl⟩ (Nat.le_of_ble_eq_true rfl) (Nat.le_of_ble_eq_true rfl) ?_
              refine q_aload_n rfl rfl ?_
              refine v_gi (z := 5) (v := c_83 1 5) rfl rfl rfl (by decide) rfl rfl hrb_hR_879.2.1 ?_
              refine q_iconst rfl ?_
              refine v_ic_ne_t (t := 12) rfl (by decide) ⟨by first | (clear ha2 hq0 hq1 hq2 hq3 hq4 hq5 hq8 h_1 h_2 h_3 h_4 h_5 h_6 h_7 h_8 h_9 h_10 h_11 h_46 h_65 h_66 h_70 h_75 h_76 h_81 h_82 h_87 h_757 h_763 h_764 h_766 h_767 h_768 h_769 h_770 h_771 h_772 h_773 h_774 h_775 h_776 h_777 h_778 h_779 h_780 h_782 h_795 h_797 h_836 h_837 h_838 h_839 h_840 h_841 h_864 h_865 h_866 h_867 h_862 h_868 h_869 h_870 h_871 h_872 h_882 h_883 h_884 h_885 hq6 hq7 h_12 h_21 h_37 h_781 h_793 h_834 h_835 h_861 h_880 h_881; omega) | omega, ⟨(Int.le_trans (by decide) h_757.1), (Int.le_trans h_757.2 (by decide))⟩, by decide, by decide⟩ ?_
              refine q_iconst rfl ?_
              refine v_zret rfl rfl (by decide) ?_
              refine bk_inl ?_
              refine v_if_eq_t (t := 41) rfl (by decide) (by decide) ?_
              refine q_vret rfl rfl ?_
              refine bk_inl ?_
              refine q_aload_n rfl rfl ?_
              refine q_dup rfl rfl ?_
              have kn_888 : Hid (c_875 41 7 = c_856 41 7) := hF_877 41 7 (fun q => q.elim (fun h => absurd h.2 (ni rfl)) (fun q => q.elim (fun h => absurd h.2 (ni rfl)) (fun h => absurd h.2 (ni rfl))))
              refine v_gi (z := 7) (v := c_856 41 7) rfl rfl rfl (by decide) rfl rfl (hid kn_888) ?_
              refine q_iconst rfl ?_
              refine v_isub (v := c_856 41 7 - 1) rfl rfl ?_
              refine v_pi (z := 7) rfl rfl rfl (by decide) rfl rfl rfl (by decide) ?_
              refine q_aload_n rfl rfl ?_
              refine q_iload_n rfl rfl ?_
              refine q_iconst rfl ?_
              refine v_cv rfl rfl rfl rfl (by decide) ⟨⟨rfl, rfl⟩, by decide, rfl⟩ (Nat.le_of_ble_eq_true rfl) (Nat.le_of_ble_eq_true rfl) ?_
              refine q_aload_n rfl rfl ?_
              refine v_cv rfl rfl rfl rfl (by decide) ⟨⟨rfl, rfl⟩, by decide, rfl⟩ (Nat.le_of_ble_eq_true rfl) (Nat.le_of_ble_eq_true rfl) ?_
              refine q_aload_n rfl rfl ?_
              refine v_gi (z := 5) (v := c_83 1 5) rfl rfl rfl (by decide) rfl rfl (((up_n (by decide))).trans (hrb_hR_879.2.1)) ?_
              refine q_iconst rfl ?_
              refine v_ic_ne_t (t := 12) rfl (by decide) ⟨by first | (clear ha2 hq0 hq1 hq2 hq3 hq4 hq5 hq8 h_1 h_2 h_3 h_4 h_5 h_6 h_7 h_8 h_9 h_10 h_11 h_46 h_65 h_66 h_70 h_75 h_76 h_81 h_82 h_87 h_757 h_763 h_764 h_766 h_767 h_768 h_769 h_770 h_771 h_772 h_773 h_774 h_775 h_776 h_777 h_778 h_779 h_780 h_782 h_795 h_797 h_836 h_837 h_838 h_839 h_840 h_841 h_864 h_865 h_866 h_867 h_862 h_868 h_869 h_870 h_871 h_872 h_882 h_883 h_884 h_885 hq6 hq7 h_12 h_21 h_37 h_781 h_793 h_834 h_835 h_861 h_880 h_881; omega) | omega, ⟨(Int.le_trans (by decide) h_757.1), (Int.le_trans h_757.2 (by decide))⟩, by decide, by decide⟩ ?_
              refine q_iconst rfl ?_
              refine v_zret rfl rfl (by decide) ?_
              refine bk_inl ?_
              refine v_if_ne_f (t := 8) rfl (by decide) (by decide) ?_
              refine q_vret rfl rfl ?_
              refine bk_inl ?_
              refine q_vret rfl rfl ?_
              refine bk_inl ?_
              refine q_goto (t := 154) rfl (by decide) ?_
              refine q_vret rfl rfl ?_
              have hI_889 := iw_41_7 (v := c_856 41 7 - 1) hI_876 ⟨by first | (clear hq0 hq1 hq2 hq3 hq4 hq5 hq8 h_1 h_2 h_3 h_4 h_5 h_6 h_7 h_8 h_9 h_10 h_11 h_46 h_65 h_66 h_70 h_75 h_76 h_81 h_82 h_87 h_757 h_763 h_764 h_766 h_767 h_768 h_769 h_770 h_771 h_772 h_773 h_774 h_775 h_776 h_777 h_778 h_779 h_780 h_782 h_795 h_797 h_836 h_837 h_838 h_839 h_840 h_841 h_864 h_865 h_866 h_867 h_868 h_869 h_870 h_871 h_872 h_882 h_883 h_884 h_885 h_886 hq6 hq7 h_12 h_21 h_37 h_781 h_793 h_834 h_835 h_861 h_880 h_881; omega) | omega, by first | exact rgm_h h_867.2 (by decide) | omega⟩
              have h_890 : (up c_875 41 7 (c_856 41 7 - 1)) 41 5 = c_83 1 5 := (((up_n (by decide))).trans (hrb_hR_879.2.1))
              have h_891 : (up c_875 41 7 (c_856 41 7 - 1)) 41 4 = c_875 41 4 := (up_n (by decide))
              have h_892 : (up c_875 41 7 (c_856 41 7 - 1)) 41 6 = c_83 1 4 := (((up_n (by decide))).trans (hrb_hR_879.2.2.2))
              have kn_893 : Hid (c_875 41 29 = c_856 41 29) := hF_877 41 29 (fun q => q.elim (fun h => absurd h.2 (ni rfl)) (fun q => q.elim (fun h => absurd h.2 (ni rfl)) (fun h => absurd h.2 (ni rfl))))
              have h_894 : (up c_875 41 7 (c_856 41 7 - 1)) 41 29 = c_856 41 29 := ((up_n (by decide)).trans (hid kn_893))
              have h_895 : (up c_875 41 7 (c_856 41 7 - 1)) 41 7 = c_856 41 7 - 1 := (up_e rfl)
              have h_896 : (up c_875 41 7 (c_856 41 7 - 1)) 41 29 = c_856 41 29 := ((up_n (by decide)).trans (hid kn_893))
              exact K (up c_875 41 7 (c_856 41 7 - 1))  hI_889 (fun a j hm => (up_b (Decidable.or_iff_not_imp_left.mpr (fun h1 h2 => hm (Or.inr (Or.inr (Or.inr (Or.inl ⟨Decidable.not_not.mp h1, h2⟩))))))).trans ((hF_877 a j (fun q => q.elim (fun h => hm (Or.inl h)) (fun q => q.elim (fun h => hm (Or.inr (Or.inl h))) (fun h => hm (Or.inr (Or.inr (Or.inl h))))))).trans ((hF_858 a j (fun q => q.elim (fun h => hm (Or.inl h)) (fun q => q.elim (fun h => hm (Or.inr (Or.inl h))) (fun q => q.elim (fun h => hm (Or.inr (Or.inr (Or.inl h)))) (fun q => q.elim (fun h => hm (Or.inr (Or.inr (Or.inr (Or.inl h))))) (fun q => q.elim (fun h => hm (Or.inr (Or.inr (Or.inr (Or.inr (Or.inl h)))))) (fun q => q.elim (fun h => hm (Or.inr (Or.inr (Or.inr (Or.inr (Or.inr (Or.inl h))))))) (fun h => hm (Or.inr (Or.inr (Or.inr (Or.inr (Or.inr (Or.inr h)))))))))))))).trans ((hF_831 a j (fun q => q.elim (fun h => hm (Or.inl h)) (fun q => q.elim (fun h => hm (Or.inr (Or.inl h))) (fun h => hm (Or.inr (Or.inr (Or.inl h))))))).trans ((up_b (Decidable.or_iff_not_imp_left.mpr (fun h1 h2 => hm (Or.inr (Or.inr (Or.inr (Or.inl ⟨Decidable.not_not.mp h1, h2⟩))))))).trans ((up_b (Decidable.or_iff_not_imp_left.mpr (fun h1 h2 => hm (Or.inl ⟨Decidable.not_not.mp h1, h2⟩)))).trans ((hF_805 a j (fun h => hm (Or.inl h))).trans ((hF_800 a j (fun h => hm (Or.inl h))).trans ((hF_790 a j (fun h => hm (Or.inl h))).trans (hF_785 a j (fun h => hm (Or.inl h)))))))))))) (rt_i2 ⟨⟨by first | (clear ha2 hq0 hq1 hq2 hq3 hq4 hq5 hq8 h_1 h_2 h_3 h_4 h_5 h_6 h_7 h_8 h_9 h_10 h_11 h_46 h_65 h_66 h_70 h_75 h_76 h_81 h_82 h_87 h_757 h_763 h_764 h_766 h_768 h_769 h_770 h_771 h_772 h_773 h_774 h_775 h_776 h_777 h_778 h_779 h_780 h_782 h_795 h_797 h_836 h_837 h_838 h_839 h_840 h_841 h_864 h_865 h_866 h_867 h_862 h_868 h_869 h_870 h_871 h_872 h_882 h_883 h_884 h_885 hq6 hq7 h_12 h_21 h_37 h_781 h_793 h_834 h_835 h_861 h_880 h_881; omega) | omega, by first | (clear ha2 hq0 hq1 hq2 hq3 hq4 hq5 hq8 h_1 h_2 h_3 h_4 h_5 h_6 h_7 h_8 h_9 h_10 h_11 h_46 h_65 h_66 h_70 h_75 h_76 h_81 h_82 h_87 h_757 h_763 h_764 h_767 h_768 h_769 h_770 h_771 h_772 h_773 h_774 h_775 h_776 h_777 h_778 h_779 h_780 h_782 h_795 h_797 h_836 h_837 h_838 h_839 h_840 h_841 h_864 h_865 h_866 h_867 h_862 h_868 h_869 h_870 h_871 h_872 h_882 h_883 h_884 h_885 h_886 hq6 hq7 h_12 h_21 h_37 h_781 h_793 h_834 h_835 h_861 h_880 h_881; omega) | omega⟩, by first | (clear ha2 hq0 hq1 hq2 hq3 hq4 hq5 hq8 h_1 h_2 h_3 h_4 h_5 h_6 h_7 h_8 h_9 h_10 h_11 h_46 h_65 h_66 h_70 h_75 h_76 h_81 h_82 h_87 h_757 h_763 h_764 h_766 h_767 h_768 h_769 h_770 h_771 h_773 h_774 h_775 h_776 h_777 h_778 h_779 h_780 h_782 h_795 h_797 h_836 h_837 h_838 h_839 h_840 h_841 h_864 h_865 h_866 h_867 h_862 h_868 h_869 h_870 h_871 h_872 h_882 h_883 h_884 h_885 h_886 hq6 hq7 h_12 h_21 h_37 h_781 h_793 h_834 h_835 h_861 h_880 h_881; omega) | omega, by first | (clear ha2 hq0 hq1 hq2 hq3 hq4 hq5 hq8 h_1 h_2 h_3 h_4 h_5 h_6 h_7 h_8 h_9 h_10 h_11 h_46 h_65 h_66 h_70 h_75 h_76 h_81 h_82 h_87 h_757 h_763 h_764 h_766 h_767 h_768 h_769 h_770 h_771 h_773 h_774 h_775 h_776 h_777 h_778 h_779 h_780 h_782 h_795 h_797 h_836 h_837 h_838 h_839 h_840 h_841 h_864 h_865 h_866 h_867 h_862 h_868 h_869 h_870 h_871 h_872 h_882 h_883 h_884 h_885 hq6 hq7 h_12 h_21 h_37 h_781 h_793 h_834 h_835 h_861 h_880 h_881; omega) | omega, by first | (clear ha2 hq0 hq1 hq2 hq3 hq4 hq5 hq8 h_1 h_2 h_3 h_4 h_5 h_6 h_7 h_8 h_9 h_10 h_11 h_46 h_65 h_66 h_70 h_75 h_76 h_81 h_82 h_87 h_757 h_763 h_764 h_766 h_768 h_769 h_770 h_771 h_772 h_773 h_774 h_775 h_776 h_777 h_778 h_779 h_780 h_782 h_795 h_797 h_836 h_837 h_838 h_839 h_840 h_841 h_864 h_865 h_866 h_867 h_862 h_868 h_869 h_870 h_871 h_872 h_882 h_883 h_884 h_885 h_886 hq6 hq7 h_12 h_21 h_37 h_781 h_793 h_834 h_835 h_861 h_880 h_881; omega) | omega⟩) (Or.inr (Or.inl (by first | (clear ha2 hq0 hq1 hq2 hq3 hq4 hq5 hq8 h_1 h_2 h_3 h_4 h_5 h_6 h_7 h_8 h_9 h_10 h_11 h_46 h_65 h_66 h_70 h_75 h_76 h_81 h_82 h_87 h_757 h_763 h_764 h_766 h_768 h_769 h_770 h_771 h_772 h_773 h_774 h_775 h_776 h_777 h_778 h_779 h_780 h_782 h_795 h_797 h_836 h_837 h_838 h_839 h_840 h_841 h_864 h_865 h_866 h_867 h_862 h_868 h_869 h_870 h_871 h_872 h_882 h_883 h_884 h_885 hq6 hq7 h_12 h_21 h_37 h_781 h_793 h_834 h_835 h_861 h_880 h_881; omega) | omega))) (by first | (clear ha2 hq0 hq1 hq2 hq3 hq4 hq5 hq8 h_1 h_2 h_3 h_4 h_5 h_6 h_7 h_8 h_9 h_10 h_11 h_46 h_65 h_66 h_70 h_75 h_76 h_81 h_82 h_87 h_757 h_763 h_764 h_766 h_767 h_768 h_769 h_770 h_771 h_772 h_773 h_774 h_775 h_776 h_777 h_778 h_779 h_780 h_782 h_795 h_797 h_836 h_837 h_838 h_839 h_840 h_841 h_864 h_865 h_866 h_867 h_868 h_869 h_870 h_871 h_872 h_882 h_883 h_884 h_885 h_886 hq6 hq7 h_12 h_21 h_37 h_781 h_793 h_834 h_835 h_861 h_880 h_881; omega) | omega) (fun hz => absurd hz (by omega))
            · refine v_ic_ge_f (t := 32) rfl (by decide) ⟨(Int.le_trans (by decide) h_763.1), (Int.not_le.mp h_764), by decide⟩ ?_
              refine q_aload_n rfl rfl ?_
              refine v_gr (t := (A + 9)) rfl rfl (ck_p7 hA) (a68 hA rfl) rfl ?_
              refine q_aload_n rfl rfl ?_
              refine v_gi (z := 5) (v := c_758 (A + 7) 5) rfl rfl (ck_p7 hA) (a68 hA rfl) rfl rfl rfl ?_
              refine q_iload_n rfl rfl ?_
              refine v_is rfl (ck_p9 hA) (a68 hA rfl) (by decide) (by omega) ?_
              refine q_aload_n rfl rfl ?_
              refine q_dup rfl rfl ?_
              refine v_gi (z := 5) (v := c_758 (A + 7) 5) rfl rfl (ck_p7 hA) (a68 hA rfl) rfl rfl (up_c (pp rfl)) ?_
              refine q_iconst rfl ?_
              refine v_iadd (v := c_758 (A + 7) 5 + 1) rfl rfl ?_
              refine v_pi (z := 5) rfl rfl (ck_p7 hA) (a68 hA rfl) rfl rfl rfl (by decide) ?_
              refine q_vret rfl rfl ?_
              refine bk_inl ?_
              refine q_vret rfl rfl ?_
              have hI_897 := iw_lg (j := c_758 (A + 7) 5) (v := (wd1_0 F (nx F e1 p0) (ln F e1 (nx F e1 p0))) + 1997) hI_759 (lgp (k := 9) hA (by decide)) ⟨by omega, by omega⟩ (by omega)
              have hI_898 := iw_p7_5 (v := c_758 (A + 7) 5 + 1) hI_897 hA ⟨by first | exact rgp_l h_763.1 (by decide) | omega, by first | (clear ha2 hq0 hq1 hq2 hq3 hq4 hq5 hq8 h_1 h_2 h_3 h_4 h_5 h_6 h_7 h_8 h_9 h_10 h_11 h_46 h_65 h_66 h_70 h_75 h_76 h_81 h_82 h_87 h_757 h_763 hq6 hq7 h_12 h_21 h_37; omega) | omega⟩
              intro hE_899
              have hW : Wd P Q P P (up (up c_758 (A + 9) (c_758 (A + 7) 5) ((wd1_0 F (nx F e1 p0) (ln F e1 (nx F e1 p0))) + 1997)) (A + 7) 5 (c_758 (A + 7) 5 + 1)) = Wd P Q P P m9 := (Prod.mk.inj (Prod.mk.inj hE_899).2).1
              have h_900 := ir_1_4 hJ9
              have h_901 : m9 1 4 = c_83 1 4 := wd_fv (z := 4) 4 rfl hW rfl rfl rfl rfl (by decide) ((up_c (pn hA rfl rfl)).trans ((up_c (pn hA rfl rfl)).trans (hz_761))) ⟨(Int.le_trans (by decide) h_87.1), (Int.le_trans h_87.2 (by decide))⟩ ⟨(Int.le_trans (by decide) h_900.1), (Int.le_trans h_900.2 (by decide))⟩
              have h_902 := ir_1_2 hI_759
              have h_903 := ir_1_2 hJ9
              have h_904 : m9 1 2 = c_758 1 2 := wd_fv (z := 2) 2 rfl hW rfl rfl rfl rfl (by decide) ((up_c (pn hA rfl rfl)).trans (up_c (pn hA rfl rfl))) ⟨(Int.le_trans (by decide) h_902.1), (Int.le_trans h_902.2 (by decide))⟩ ⟨(Int.le_trans (by decide) h_903.1), (Int.le_trans h_903.2 (by decide))⟩
              have h_905 := ir_1_5 hJ9
              have h_906 : m9 1 5 = c_83 1 5 := wd_fv (z := 5) 5 rfl hW rfl rfl rfl rfl (by decide) ((up_c (pn hA rfl rfl)).trans ((up_c (pn hA rfl rfl)).trans (hz_762))) ⟨(Int.le_trans (by decide) h_757.1), (Int.le_trans h_757.2 (by decide))⟩ ⟨(Int.le_trans (by decide) h_905.1), (Int.le_trans h_905.2 (by decide))⟩
              have h_907 := ir_p7_5 hJ9 hA
              have h_908 : m9 (A + 7) 5 = c_758 (A + 7) 5 + 1 := wd_fv (z := 5) 5 rfl hW (ck_p7 hA) (ck_p7 hA) rfl rfl (by omega) (up_e rfl) ⟨by first | exact rgp_l h_763.1 (by decide) | omega, by first | exact rgp_h h_763.2 (by decide) | omega⟩ ⟨(Int.le_trans (by decide) h_907.1), (Int.le_trans h_907.2 (by decide))⟩
              refine q_aload_n rfl rfl ?_
              refine v_cv rfl rfl rfl rfl (by decide) ⟨⟨rfl, rfl⟩, by decide, rfl⟩ (Nat.le_of_ble_eq_true rfl) (Nat.le_of_ble_eq_true rfl) ?_
              refine q_aload_n rfl rfl ?_
              have h_909 := ir_41_5 hI
              have h_910 := ir_41_4 hI
              have h_911 := ir_41_6 hI
              have h_912 := rt_ok hRt (by omega)
              have hro_hRt := rt_ok hRt (by omega)
              refine v_gi (z := 5) (v := (-1)) rfl rfl rfl (by decide) rfl rfl hro_hRt.2.1 ?_
              refine q_iconst rfl ?_
              refine v_ic_ne_f (t := 12) rfl (by decide) (by decide) ?_
              refine q_iconst rfl ?_
              refine q_goto (t := 13) rfl (by decide) ?_
              refine v_zret rfl rfl (by decide) ?_
              refine bk_inl ?_
              refine v_if_ne_t (t := 8) rfl (by decide) (by decide) ?_
              refine q_aload_n rfl rfl ?_
              have h_913 : -2147483648 ≤ (H (nx F e1 p0)) ∧ (H (nx F e1 p0)) ≤ 2147483647 := by rw [← hH (nx F e1 p0)]; exact ir_43 hI (nx F e1 p0)
              have h_914 := hU (nx F e1 p0) (by omega) (by omega)
              have h_915 := hb_or (b := H) (e := e1) (r := (nx F e1 p0))
              have h_916 := hb_bd (b := H) (e := e1) (r := (nx F e1 p0)) (lo := -2147483648) (hi := 2147483647) h_913 (by decide)
              refine v_cv rfl rfl rfl rfl (by decide) ⟨⟨rfl, rfl⟩, by decide, rfl⟩ (Nat.le_of_ble_eq_true rfl) (Nat.le_of_ble_eq_true rfl) (f_154 (e1 := e1) (a9 := p0) (B := H) (r8 := (nx F e1 p0)) (r := (hb H e1 (nx F e1 p0))) hI ((hr_e1)) (((hro_hRt.2.2.1).trans ((hg_p0)))) (fun j => hH j) ((nx_tr hU (by first | (clear ha2 hq0 hq1 hq2 hq3 hq4 hq5 hq8 h_1 h_2 h_3 h_4 h_6 h_7 h_8 h_9 h_10 h_11 h_46 h_65 h_66 h_70 h_75 h_76 h_81 h_82 h_87 h_757 h_763 h_900 h_901 h_902 h_903 h_904 h_905 h_906 h_907 h_908 h_909 h_910 h_911 h_912 hq6 hq7 h_12 h_21 h_37; omega) | omega) (by first | (clear ha2 hq0 hq1 hq2 hq3 hq4 hq8 h_1 h_2 h_3 h_4 h_5 h_6 h_7 h_8 h_9 h_10 h_11 h_46 h_65 h_66 h_70 h_75 h_76 h_81 h_82 h_87 h_757 h_763 h_900 h_901 h_902 h_903 h_904 h_905 h_906 h_907 h_908 h_909 h_910 h_911 h_912 hq6 hq7 h_12 h_21 h_37; omega) | omega)).trans (rfl)) rfl (fun c_917 hI_918 hF_919 h_920 => ?_))
              refine bk_inl ?_
              refine v_bip rfl (by decide) ?_
              refine v_ic_ne_t (t := 45) rfl (by decide) ⟨by first | (clear ha2 hq0 hq1 hq2 hq3 hq8 h_3 h_4 h_5 h_6 h_7 h_8 h_9 h_11 h_65 h_66 h_70 h_75 h_76 h_81 h_82 h_87 h_757 h_763 h_900 h_901 h_902 h_903 h_904 h_905 h_906 h_907 h_908 h_909 h_910 h_911 h_912; omega) | omega, ⟨h_916.1, h_916.2⟩, by decide, by decide⟩ ?_
              refine q_aload_n rfl rfl ?_
              have kn_921 : Hid (c_917 41 3 = e1) := (hF_919 41 3 (fun h => absurd h.2 (ni rfl))).trans (hr_e1)
              refine v_cv rfl rfl rfl rfl (by decide) ⟨⟨rfl, rfl⟩, by decide, rfl⟩ (Nat.le_of_ble_eq_true rfl) (Nat.le_of_ble_eq_true rfl) (f_154 (e1 := e1) (a9 := (nx F e1 p0)) (B := H) (r8 := (nx F e1 p0)) (r := (hb H e1 (nx F e1 p0))) hI_918 ((hid kn_921)) ((h_920)) (fun j => (hF_919 43 j (fun h => absurd h.1 (nn rfl))).trans (hH j)) ((nx_tr hU (by first | (clear ha2 hq0 hq1 hq2 hq3 hq4 hq5 hq8 h_1 h_2 h_3 h_4 h_6 h_7 h_8 h_9 h_11 h_46 h_65 h_66 h_70 h_75 h_76 h_81 h_82 h_87 h_757 h_763 h_900 h_901 h_902 h_903 h_904 h_905 h_906 h_907 h_908 h_909 h_910 h_911 h_912 h_913 h_914 h_916 hq6 hq7 h_12 h_21 h_37 h_915; omega) | omega) (by first | (clear ha2 hq0 hq1 hq2 hq3 hq4 hq8 h_1 h_2 h_3 h_4 h_5 h_6 h_7 h_8 h_9 h_10 h_11 h_46 h_65 h_66 h_70 h_75 h_76 h_81 h_82 h_87 h_757 h_763 h_900 h_901 h_902 h_903 h_904 h_905 h_906 h_907 h_908 h_909 h_910 h_911 h_912 h_913 h_914 h_916 hq6 hq7 h_12 h_21 h_37 h_915; omega) | omega)).trans ((nx_z (by omega)))) rfl (fun c_922 hI_923 hF_924 h_925 => ?_))
              refine bk_inl ?_
              refine q_call rfl rfl rfl rfl (f_156 (a0 := (hb H e1 (nx F e1 p0))) hI_923 (show (-2147483648) ≤ (hb H e1 (nx F e1 p0)) ∧ (hb H e1 (nx F e1 p0)) ≤ 2147483647 from h_916) (fun y_926 hy_926 h_927 => ?_))
              refine bk_inl ?_
              refine v_if_eq_t (t := 71) rfl (by decide) (by first | (clear ha2 hq0 hq1 hq2 hq3 hq8 h_3 h_4 h_5 h_6 h_7 h_8 h_9 h_11 h_65 h_66 h_70 h_75 h_76 h_81 h_82 h_87 h_757 h_763 h_900 h_901 h_902 h_903 h_904 h_905 h_906 h_907 h_908 h_909 h_910 h_911 h_912; omega) | omega) ?_
              refine q_aload_n rfl rfl ?_
              have kn_928 : Hid (c_922 41 3 = e1) := (hF_924 41 3 (fun h => absurd h.2 (ni rfl))).trans (hid kn_921)
              have h_929 := wv_bd (b := F) (r := (nx F e1 p0)) (l := (ln F e1 (nx F e1 p0))) (fun j h1 h2 => ⟨(ln_in (e := e1) (a := (nx F e1 p0)) h1 h2).1, (ln_in (e := e1) (a := (nx F e1 p0)) h1 h2).2.1⟩)
              have h_930 := wr1_9 (b := F) (r := (nx F e1 p0)) (l := (ln F e1 (nx F e1 p0))) (by omega) (fun j h1 h2 => ⟨(ln_in (e := e1) (a := (nx F e1 p0)) h1 h2).1, (ln_in (e := e1) (a := (nx F e1 p0)) h1 h2).2.1⟩) (by omega)
              have h_931 : (wv F (nx F e1 p0) (ln F e1 (nx F e1 p0))) = 441972 → (ln F e1 (nx F e1 p0)) - (nx F e1 p0) = 4 := wl_most (by omega) (fun j h1 h2 => ⟨(ln_in (e := e1) (a := (nx F e1 p0)) h1 h2).1, (ln_in (e := e1) (a := (nx F e1 p0)) h1 h2).2.1⟩)
              refine v_cv rfl rfl rfl rfl (by decide) ⟨⟨rfl, rfl⟩, by decide, rfl⟩ (Nat.le_of_ble_eq_true rfl) (Nat.le_of_ble_eq_true rfl) (f_157 (e1 := e1) (a9 := (nx F e1 p0)) (B := H) (r8 := (nx F e1 p0)) (L8 := (ln F e1 (nx F e1 p0))) (W8 := (wv F (nx F e1 p0) (ln F e1 (nx F e1 p0)))) hI_923 ((hid kn_928)) ((h_925)) (fun j => ((hF_924 43 j (fun h => absurd h.1 (nn rfl))).trans (hF_919 43 j (fun h => absurd h.1 (nn rfl)))).trans (hH j)) ((nx_tr hU (by first | (clear ha2 hq0 hq1 hq2 hq3 hq4 hq5 hq8 h_1 h_2 h_3 h_4 h_6 h_7 h_8 h_9 h_11 h_46 h_65 h_66 h_70 h_75 h_76 h_81 h_82 h_87 h_757 h_763 h_900 h_901 h_902 h_903 h_904 h_905 h_906 h_907 h_908 h_909 h_910 h_911 h_912 h_913 h_914 h_916 hq6 hq7 h_12 h_21 h_37 h_915 h_927; omega) | omega) (by first | (clear ha2 hq0 hq1 hq2 hq3 hq4 hq8 h_1 h_2 h_3 h_4 h_5 h_6 h_7 h_8 h_9 h_10 h_11 h_46 h_65 h_66 h_70 h_75 h_76 h_81 h_82 h_87 h_757 h_763 h_900 h_901 h_902 h_903 h_904 h_905 h_906 h_907 h_908 h_909 h_910 h_911 h_912 h_913 h_914 h_916 hq6 hq7 h_12 h_21 h_37 h_915 h_927; omega) | omega)).trans ((nx_z (by omega)))) ((ln_tr hU (by first | (clear ha2 hq0 hq1 hq2 hq3 hq4 hq5 hq8 h_1 h_2 h_3 h_4 h_6 h_7 h_8 h_9 h_11 h_46 h_65 h_66 h_70 h_75 h_76 h_81 h_82 h_87 h_757 h_763 h_900 h_901 h_902 h_903 h_904 h_905 h_906 h_907 h_908 h_909 h_910 h_911 h_912 h_913 h_914 h_916 hq6 hq7 h_12 h_21 h_37 h_915 h_927; omega) | omega) (by first | (clear ha2 hq0 hq1 hq2 hq3 hq4 hq8 h_1 h_2 h_3 h_4 h_5 h_6 h_7 h_8 h_9 h_10 h_11 h_46 h_65 h_66 h_70 h_75 h_76 h_81 h_82 h_87 h_757 h_763 h_900 h_901 h_902 h_903 h_904 h_905 h_906 h_907 h_908 h_909 h_910 h_911 h_912 h_913 h_914 h_916 hq6 hq7 h_12 h_21 h_37 h_915 h_927; omega) | omega)).trans (rfl)) ((wv_tr hU (by first | (clear ha2 hq0 hq1 hq2 hq3 hq4 hq5 hq8 h_1 h_2 h_3 h_4 h_6 h_7 h_8 h_9 h_11 h_46 h_65 h_66 h_70 h_75 h_76 h_81 h_82 h_87 h_757 h_763 h_900 h_901 h_902 h_903 h_904 h_905 h_906 h_907 h_908 h_909 h_910 h_911 h_912 h_913 h_914 h_916 h_929 h_931 hq6 hq7 h_12 h_21 h_37 h_915 h_927; omega) | omega) (by first | (clear ha2 hq0 hq1 hq2 hq3 hq4 hq8 h_1 h_2 h_3 h_4 h_5 h_6 h_7 h_8 h_9 h_10 h_11 h_65 h_66 h_70 h_75 h_76 h_81 h_82 h_87 h_757 h_763 h_900 h_901 h_902 h_903 h_904 h_905 h_906 h_907 h_908 h_909 h_910 h_911 h_912 h_913 h_914 h_916 h_929 h_931 hq6 hq7 h_12 h_21 h_37 h_915 h_927; omega) | omega) (fun j h1 h2 => ⟨(ln_in (e := e1) (a := (nx F e1 p0)) h1 h2).1, (ln_in (e := e1) (a := (nx F e1 p0)) h1 h2).2.1⟩)).trans (rfl)) (fun c_932 hI_933 hF_934 hz_935 => ?_))
              refine bk_inl ?_
              refine q_ldc_w_s rfl rfl rfl (by decide) ?_
              refine q_call rfl rfl rfl rfl (s_158_20 ?_)
              refine bk_inl ?_
              refine v_ic_ne_t (t := 94) rfl (by decide) ⟨by first | (clear ha2 hq0 hq1 hq2 hq3 hq4 hq5 hq8 h_1 h_2 h_3 h_4 h_5 h_6 h_7 h_8 h_9 h_10 h_11 h_46 h_65 h_66 h_70 h_75 h_76 h_81 h_82 h_87 h_757 h_763 h_900 h_901 h_902 h_903 h_904 h_905 h_906 h_907 h_908 h_909 h_910 h_911 h_912 h_913 h_914 h_916 h_929 hq6 hq7 h_12 h_21 h_37 h_915 h_927; omega) | omega, ⟨(Int.le_trans (by decide) h_929.1), (Int.le_trans h_929.2 (by decide))⟩, by decide, by decide⟩ ?_
              refine q_aload_n rfl rfl ?_
              have kn_936 : Hid (c_932 41 3 = e1) := (hF_934 41 3 (fun h => absurd h.2 (ni rfl))).trans (hid kn_928)
              refine v_cv rfl rfl rfl rfl (by decide) ⟨⟨rfl, rfl⟩, by decide, rfl⟩ (Nat.le_of_ble_eq_true rfl) (Nat.le_of_ble_eq_true rfl) (f_157 (e1 := e1) (a9 := (nx F e1 p0)) (B := H) (r8 := (nx F e1 p0)) (L8 := (ln F e1 (nx F e1 p0))) (W8 := (wv F (nx F e1 p0) (ln F e1 (nx F e1 p0)))) hI_933 ((hid kn_936)) ((hz_935)) (fun j => ((hF_934 43 j (fun h => absurd h.1 (nn rfl))).trans ((hF_924 43 j (fun h => absurd h.1 (nn rfl))).trans (hF_919 43 j (fun h => absurd h.1 (nn rfl))))).trans (hH j)) ((nx_tr hU (by first | (clear ha2 hq0 hq1 hq2 hq3 hq4 hq5 hq8 h_1 h_2 h_3 h_4 h_6 h_7 h_8 h_9 h_11 h_46 h_65 h_66 h_70 h_75 h_76 h_81 h_82 h_87 h_757 h_763 h_900 h_901 h_902 h_903 h_904 h_905 h_906 h_907 h_908 h_909 h_910 h_911 h_912 h_913 h_914 h_916 h_929 h_931 hq6 hq7 h_12 h_21 h_37 h_915 h_927; omega) | omega) (by first | (clear ha2 hq0 hq1 hq2 hq3 hq4 hq8 h_1 h_2 h_3 h_4 h_5 h_6 h_7 h_8 h_9 h_10 h_11 h_46 h_65 h_66 h_70 h_75 h_76 h_81 h_82 h_87 h_757 h_763 h_900 h_901 h_902 h_903 h_904 h_905 h_906 h_907 h_908 h_909 h_910 h_911 h_912 h_913 h_914 h_916 h_929 h_931 hq6 hq7 h_12 h_21 h_37 h_915 h_927; omega) | omega)).trans ((nx_z (by omega)))) ((ln_tr hU (by first | (clear ha2 hq0 hq1 hq2 hq3 hq4 hq5 hq8 h_1 h_2 h_3 h_4 h_6 h_7 h_8 h_9 h_11 h_46 h_65 h_66 h_70 h_75 h_76 h_81 h_82 h_87 h_757 h_763 h_900 h_901 h_902 h_903 h_904 h_905 h_906 h_907 h_908 h_909 h_910 h_911 h_912 h_913 h_914 h_916 h_929 h_931 hq6 hq7 h_12 h_21 h_37 h_915 h_927; omega) | omega) (by first | (clear ha2 hq0 hq1 hq2 hq3 hq4 hq8 h_1 h_2 h_3 h_4 h_5 h_6 h_7 h_8 h_9 h_10 h_11 h_46 h_65 h_66 h_70 h_75 h_76 h_81 h_82 h_87 h_757 h_763 h_900 h_901 h_902 h_903 h_904 h_905 h_906 h_907 h_908 h_909 h_910 h_911 h_912 h_913 h_914 h_916 h_929 h_931 hq6 hq7 h_12 h_21 h_37 h_915 h_927; omega) | omega)).trans (rfl)) ((wv_tr hU (by first | (clear ha2 hq0 hq1 hq2 hq3 hq4 hq5 hq8 h_1 h_2 h_3 h_4 h_6 h_7 h_8 h_9 h_11 h_46 h_65 h_66 h_70 h_75 h_76 h_81 h_82 h_87 h_757 h_763 h_900 h_901 h_902 h_903 h_904 h_905 h_906 h_907 h_908 h_909 h_910 h_911 h_912 h_913 h_914 h_916 h_929 h_931 hq6 hq7 h_12 h_21 h_37 h_915 h_927; omega) | omega) (by first | (clear ha2 hq0 hq1 hq2 hq3 hq4 hq8 h_1 h_2 h_3 h_4 h_5 h_6 h_7 h_8 h_9 h_10 h_11 h_65 h_66 h_70 h_75 h_76 h_81 h_82 h_87 h_757 h_763 h_900 h_901 h_902 h_903 h_904 h_905 h_906 h_907 h_908 h_909 h_910 h_911 h_912 h_913 h_914 h_916 h_929 h_931 hq6 hq7 h_12 h_21 h_37 h_915 h_927; omega) | omega) (fun j h1 h2 => ⟨(ln_in (e := e1) (a := (nx F e1 p0)) h1 h2).1, (ln_in (e := e1) (a := (nx F e1 p0)) h1 h2).2.1⟩)).trans (rfl)) (fun c_937 hI_938 hF_939 hz_940 => ?_))
              refine bk_inl ?_
              refine q_ldc_w_s rfl rfl rfl (by decide) ?_
              refine q_call rfl rfl rfl rfl (s_158_21 ?_)
              refine bk_inl ?_
              refine v_ic_ne_f (t := 117) rfl (by decide) (by first | (clear ha2 hq0 hq1 hq2 hq3 hq4 hq5 hq8 h_1 h_2 h_3 h_4 h_5 h_6 h_7 h_8 h_9 h_10 h_11 h_46 h_65 h_66 h_70 h_75 h_76 h_81 h_82 h_87 h_757 h_763 h_900 h_901 h_902 h_903 h_904 h_905 h_906 h_907 h_908 h_909 h_910 h_911 h_912 h_913 h_914 h_916 h_929 hq6 hq7 h_12 h_21 h_37 h_915 h_927; omega) | omega) ?_
              refine q_aload_n rfl rfl ?_
              refine q_iconst rfl ?_
              refine v_bip rfl (by decide) ?_
              refine v_cv rfl rfl rfl rfl (by decide) ⟨⟨rfl, rfl⟩, by decide, rfl⟩ (Nat.le_of_ble_eq_true rfl) (Nat.le_of_ble_eq_true rfl) ?_
              refine q_aload_n rfl rfl ?_
              refine q_iload_n rfl rfl ?_
              refine v_cv rfl rfl rfl rfl (by decide) ⟨⟨rfl, rfl⟩, by decide, rfl⟩ (Nat.le_of_ble_eq_true rfl) (Nat.le_of_ble_eq_true rfl) ?_
              refine q_aload_n rfl rfl ?_
              refine v_cv rfl rfl rfl rfl (by decide) ⟨⟨rfl, rfl⟩, by decide, rfl⟩ (Nat.le_of_ble_eq_true rfl) (Nat.le_of_ble_eq_true rfl) ?_
              refine q_aload_n rfl rfl ?_
              have kn_941 : Hid (c_917 41 5 = (-1)) := (hF_919 41 5 (fun h => absurd h.2 (ni rfl))).trans hro_hRt.2.1
              have kn_942 : Hid (c_922 41 5 = (-1)) := (hF_924 41 5 (fun h => absurd h.2 (ni rfl))).trans (hid kn_941)
              have kn_943 : Hid (c_932 41 5 = (-1)) := (hF_934 41 5 (fun h => absurd h.2 (ni rfl))).trans (hid kn_942)
              have kn_944 : Hid (c_937 41 5 = (-1)) := (hF_939 41 5 (fun h => absurd h.2 (ni rfl))).trans (hid kn_943)
              refine v_gi (z := 5) (v := (-1)) rfl rfl rfl (by decide) rfl rfl (hid kn_944) ?_
              refine q_iconst rfl ?_
              refine v_ic_ne_f (t := 12) rfl (by decide) (by decide) ?_
              refine q_iconst rfl ?_
              refine q_goto (t := 13) rfl (by decide) ?_
              refine v_zret rfl rfl (by decide) ?_
              refine bk_inl ?_
              refine v_if_eq_f (t := 25) rfl (by decide) (by decide) ?_
              refine q_aload_n rfl rfl ?_
              have kn_945 : Hid (c_917 41 7 = o0) := (hF_919 41 7 (fun h => absurd h.2 (ni rfl))).trans (hr_o0)
              have kn_946 : Hid (c_922 41 7 = o0) := (hF_924 41 7 (fun h => absurd h.2 (ni rfl))).trans (hid kn_945)
              have kn_947 : Hid (c_932 41 7 = o0) := (hF_934 41 7 (fun h => absurd h.2 (ni rfl))).trans (hid kn_946)
              have kn_948 : Hid (c_937 41 7 = o0) := (hF_939 41 7 (fun h => absurd h.2 (ni rfl))).trans (hid kn_947)
              refine v_gi (z := 7) (v := o0) rfl rfl rfl (by decide) rfl rfl (hid kn_948) ?_
              refine v_bip rfl (by decide) ?_
              refine v_ic_ne_t (t := 25) rfl (by decide) ⟨by first | (clear ha2 hq0 hq1 hq3 hq4 hq5 hq8 h_1 h_2 h_3 h_4 h_5 h_6 h_7 h_8 h_9 h_10 h_11 h_46 h_65 h_66 h_75 h_76 h_81 h_82 h_87 h_757 h_763 h_900 h_901 h_902 h_903 h_904 h_905 h_906 h_907 h_908 h_909 h_910 h_911 h_912 h_913 h_914 h_916 h_929 h_931 hq6 hq7 h_12 h_21 h_37 h_915 h_927; omega) | omega, ⟨(Int.le_trans (by decide) (rg_eq hr_o0 h_8).1), (Int.le_trans (rg_eq hr_o0 h_8).2 (by decide))⟩, by decide, by decide⟩ ?_
              refine q_aload_n rfl rfl ?_
              refine v_cv rfl rfl rfl rfl (by decide) ⟨⟨rfl, rfl⟩, by decide, rfl⟩ (Nat.le_of_ble_eq_true rfl) (Nat.le_of_ble_eq_true rfl) ?_
              refine q_aload_n rfl rfl ?_
              refine v_gi (z := 5) (v := (-1)) rfl rfl rfl (by decide) rfl rfl (hid kn_944) ?_
              refine q_iconst rfl ?_
              refine v_ic_ne_f (t := 12) rfl (by decide) (by decide) ?_
              refine q_iconst rfl ?_
              refine q_goto (t := 13) rfl (by decide) ?_
              refine v_zret rfl rfl (by decide) ?_
              refine bk_inl ?_
              refine v_if_eq_f (t := 42) rfl (by decide) (by decide) ?_
              refine q_aload_n rfl rfl ?_
              refine q_dup rfl rfl ?_
              refine v_gi (z := 4) (v := (nx F e1 p0)) rfl rfl rfl (by decide) rfl rfl (hz_940) ?_
              refine q_iload_n rfl rfl ?_
              refine v_iadd (v := (nx F e1 p0) + 4) rfl rfl ?_
              refine v_pi (z := 4) rfl rfl rfl (by decide) rfl rfl rfl (by decide) ?_
              refine q_aload_n rfl rfl ?_
              refine q_dup rfl rfl ?_
              refine v_gi (z := 7) (v := o0) rfl rfl rfl (by decide) rfl rfl ((up_n (by decide)).trans (hid kn_948)) ?_
              refine q_iconst rfl ?_
              refine v_iadd (v := o0 + 1) rfl rfl ?_
              refine v_pi (z := 7) rfl rfl rfl (by decide) rfl rfl rfl (by decide) ?_
              refine q_vret rfl rfl ?_
              refine bk_inl ?_
              refine q_aload_n rfl rfl ?_
              refine v_bip rfl (by decide) ?_
              have hI_949 := iw_41_4 (v := (nx F e1 p0) + 4) hI_938 ⟨by first | exact rgp_l (rg_be h_10 ((rg_eq hg_p0 h_5).1) ((rg_eq hg_e1 h_1).2)).1 (by decide) | omega, by first | exact rgp_h (rg_be h_10 ((rg_eq hg_p0 h_5).1) ((rg_eq hg_e1 h_1).2)).2 (by decide) | omega⟩
              have hI_950 := iw_41_7 (v := o0 + 1) hI_949 ⟨by first | exact rgp_l (rg_eq hr_o0 h_8).1 (by decide) | omega, by first | (clear ha2 hq0 hq1 hq3 hq4 hq5 hq8 h_1 h_2 h_3 h_4 h_5 h_6 h_7 h_8 h_9 h_10 h_11 h_46 h_65 h_66 h_75 h_76 h_81 h_82 h_87 h_757 h_763 h_900 h_901 h_902 h_903 h_904 h_905 h_906 h_907 h_908 h_909 h_910 h_911 h_912 h_913 h_914 h_916 h_929 h_931 hq6 hq7 h_12 h_21 h_37 h_915 h_927; omega) | omega⟩
              have kn_951 : Hid (c_62 1 1 = e1) := (hF_64 1 1 (fun q => q.elim (fun h => absurd h.2 (ni rfl)) (fun q => q.elim (fun h => absurd h.2 (ni rfl)) (fun h => absurd h.2 (ni rfl))))).trans (hid kn_39)
              have kn_952 : Hid (c_937 41 3 = e1) := (hF_939 41 3 (fun h => absurd h.2 (ni rfl))).trans (hid kn_936)
              have h_953 : c_62 1 4 = 0 := (hz_68)
              have h_954 : c_62 1 2 = (ln F e1 (nx F e1 p0)) := (hz_67)
              have h_955 : c_62 1 5 = g0 := (hz_69)
              have h_956 : (up (up c_937 41 4 ((nx F e1 p0) + 4)) 41 7 (o0 + 1)) 41 5 = (-1) := ((up_n (by decide)).trans ((up_n (by decide)).trans (hid kn_944)))
              have h_957 : (up (up c_937 41 4 ((nx F e1 p0) + 4)) 41 7 (o0 + 1)) 41 4 = (nx F e1 p0) + 4 := ((up_n (by decide)).trans (up_e rfl))
              have kn_958 : Hid (c_917 41 6 = c 41 6) := hF_919 41 6 (fun h => absurd h.2 (ni rfl))
              have kn_959 : Hid (c_922 41 6 = c 41 6) := (hF_924 41 6 (fun h => absurd h.2 (ni rfl))).trans (hid kn_958)
              have kn_960 : Hid (c_932 41 6 = c 41 6) := (hF_934 41 6 (fun h => absurd h.2 (ni rfl))).trans (hid kn_959)
              have kn_961 : Hid (c_937 41 6 = c 41 6) := (hF_939 41 6 (fun h => absurd h.2 (ni rfl))).trans (hid kn_960)
              have h_962 : (up (up c_937 41 4 ((nx F e1 p0) + 4)) 41 7 (o0 + 1)) 41 6 = c 41 6 := ((up_n (by decide)).trans ((up_n (by decide)).trans (hid kn_961)))
              refine v_cv rfl rfl rfl rfl (by decide) ⟨⟨rfl, rfl⟩, by decide, rfl⟩ (Nat.le_of_ble_eq_true rfl) (Nat.le_of_ble_eq_true rfl) (L_11_3 (m := c_62) (e1 := e1) (a9 := (ln F e1 (nx F e1 p0))) (f0 := 0) (F := F) (H := H) hI_950 hI_63 hI_72 ((hid kn_951)) (((up_n (by decide)).trans ((up_n (by decide)).trans (hid kn_952)))) ((hz_67)) ((hz_68)) (fun j => ((hF_64 2 j (fun q => q.elim (fun h => absurd h.1 (nn rfl)) (fun q => q.elim (fun h => absurd h.1 (nn rfl)) (fun h => absurd h.1 (nn rfl))))).trans ((hF_36 2 j (fun h => absurd h.1 (nn rfl))).trans ((hF_26 2 j (fun h => absurd h.1 (nn rfl))).trans (hF_20 2 j (fun h => absurd h.1 (nn rfl)))))).trans (hF j)) (fun j => ((up_c (nn rfl)).trans ((up_c (nn rfl)).trans ((hF_939 43 j (fun h => absurd h.1 (nn rfl))).trans ((hF_934 43 j (fun h => absurd h.1 (nn rfl))).trans ((hF_924 43 j (fun h => absurd h.1 (nn rfl))).trans (hF_919 43 j (fun h => absurd h.1 (nn rfl)))))))).trans (hH j)) hU (rt_i1 ⟨by first | (clear ha2 hq0 hq1 hq2 hq3 hq4 hq5 hq8 h_1 h_2 h_3 h_4 h_5 h_6 h_7 h_8 h_9 h_10 h_11 h_46 h_65 h_66 h_70 h_75 h_76 h_81 h_82 h_87 h_757 h_763 h_900 h_901 h_902 h_903 h_904 h_905 h_906 h_907 h_908 h_909 h_910 h_911 h_912 h_913 h_914 h_916 h_929 h_931 hq6 hq7 h_12 h_21 h_37 h_915 h_927; omega) | omega, by first | (clear ha2 hq0 hq1 hq2 hq3 hq4 hq5 hq8 h_1 h_2 h_3 h_4 h_5 h_6 h_7 h_8 h_9 h_10 h_11 h_46 h_65 h_66 h_70 h_75 h_76 h_81 h_82 h_87 h_757 h_763 h_900 h_901 h_902 h_903 h_904 h_905 h_906 h_907 h_908 h_909 h_910 h_911 h_912 h_913 h_914 h_916 h_929 h_931 hq6 hq7 h_12 h_21 h_37 h_915 h_927; omega) | omega, by first | (clear ha2 hq0 hq1 hq2 hq3 hq4 hq5 hq8 h_1 h_2 h_3 h_4 h_5 h_6 h_7 h_8 h_9 h_10 h_11 h_46 h_65 h_66 h_70 h_75 h_76 h_81 h_82 h_87 h_757 h_763 h_900 h_901 h_902 h_903 h_904 h_905 h_906 h_907 h_908 h_909 h_910 h_911 h_912 h_913 h_914 h_916 h_929 hq6 hq7 h_12 h_21 h_37 h_915 h_927; omega) | omega, by first | (clear ha2 hq0 hq2 hq3 hq4 hq5 hq8 h_1 h_2 h_3 h_4 h_5 h_6 h_7 h_8 h_9 h_10 h_11 h_46 h_65 h_66 h_70 h_75 h_76 h_81 h_82 h_87 h_757 h_763 h_900 h_901 h_902 h_903 h_904 h_905 h_906 h_907 h_908 h_909 h_910 h_911 h_912 h_913 h_914 h_916 h_929 h_931 hq6 hq7 h_12 h_21 h_37 h_915 h_927; omega) | omega⟩) hG_74 (fun c_963 hI_964 hF_965 hR_967 h_968 h_969 => ?_))
              refine bk_inl ?_
              have h_970 := ir_1_2 hI_72
              refine q_aload_n rfl rfl ?_
              have h_971 := ir_41_5 hI_964
              have h_972 := ir_1_5 hI_72
              have h_973 := ir_41_4 hI_964
              have h_974 := ir_41_6 hI_964
              have h_975 := rt_ok hR_967 (by omega)
              have hro_hR_967 := rt_ok hR_967 (by omega)
              have kn_976 : Hid (c_71 1 1 = e1) := (hF_73 1 1 (fun q => q.elim (fun h => absurd h.2 (ni rfl)) (fun q => q.elim (fun h => absurd h.2 (ni rfl)) (fun h => absurd h.2 (ni rfl))))).trans (hid kn_951)
              have kn_977 : Hid (c_963 41 3 = e1) := (hF_965 41 3 (fun q => q.elim (fun h => absurd h.2 (ni rfl)) (fun q => q.elim (fun h => absurd h.2 (ni rfl)) (fun h => absurd h.2 (ni rfl))))).trans ((up_n (by decide)).trans ((up_n (by decide)).trans (hid kn_952)))
              have kn_978 : Hid (c_18 (A + 7) 5 = n0) := (hF_20 (A + 7) 5 (fun h => absurd h.1 (np hA rfl rfl))).trans (hg_n0)
              have kn_979 : Hid (c_24 (A + 7) 5 = n0) := (hF_26 (A + 7) 5 (fun h => absurd h.1 (np hA rfl rfl))).trans (hid kn_978)
              have kn_980 : Hid (c_34 (A + 7) 5 = n0) := (hF_36 (A + 7) 5 (fun h => absurd h.1 (np hA rfl rfl))).trans (hid kn_979)
              have kn_981 : Hid (c_62 (A + 7) 5 = n0) := (hF_64 (A + 7) 5 (fun q => q.elim (fun h => absurd h.1 (np hA rfl rfl)) (fun q => q.elim (fun h => absurd h.1 (np hA rfl rfl)) (fun h => absurd h.1 (np hA rfl rfl))))).trans (hid kn_980)
              have kn_982 : Hid (c_71 (A + 7) 5 = n0) := (hF_73 (A + 7) 5 (fun q => q.elim (fun h => absurd h.1 (np hA rfl rfl)) (fun q => q.elim (fun h => absurd h.1 (np hA rfl rfl)) (fun h => absurd h.1 (np hA rfl rfl))))).trans (hid kn_981)
              have kn_983 : Hid (c_917 41 29 = n0) := (hF_919 41 29 (fun h => absurd h.2 (ni rfl))).trans (hr_n0)
              have kn_984 : Hid (c_922 41 29 = n0) := (hF_924 41 29 (fun h => absurd h.2 (ni rfl))).trans (hid kn_983)
              have kn_985 : Hid (c_932 41 29 = n0) := (hF_934 41 29 (fun h => absurd h.2 (ni rfl))).trans (hid kn_984)
              have kn_986 : Hid (c_937 41 29 = n0) := (hF_939 41 29 (fun h => absurd h.2 (ni rfl))).trans (hid kn_985)
              have kn_987 : Hid (c_963 41 29 = n0) := (hF_965 41 29 (fun q => q.elim (fun h => absurd h.2 (ni rfl)) (fun q => q.elim (fun h => absurd h.2 (ni rfl)) (fun h => absurd h.2 (ni rfl))))).trans ((up_n (by decide)).trans ((up_n (by decide)).trans (hid kn_986)))
              have kn_988 : Hid (c_963 41 7 = o0 + 1) := (hF_965 41 7 (fun q => q.elim (fun h => absurd h.2 (ni rfl)) (fun q => q.elim (fun h => absurd h.2 (ni rfl)) (fun h => absurd h.2 (ni rfl))))).trans (up_e rfl)
              have hA_989 : Ce n0 (c_71 (A + 9)) (c_963 50) (c_963 51) := ce_fr hr0 (fun j => (hF_73 (A + 9) j (fun q => q.elim (fun h => absurd h.1 (np hA rfl rfl)) (fun q => q.elim (fun h => absurd h.1 (np hA rfl rfl)) (fun h => absurd h.1 (np hA rfl rfl))))).trans ((hF_64 (A + 9) j (fun q => q.elim (fun h => absurd h.1 (np hA rfl rfl)) (fun q => q.elim (fun h => absurd h.1 (np hA rfl rfl)) (fun h => absurd h.1 (np hA rfl rfl))))).trans ((hF_36 (A + 9) j (fun h => absurd h.1 (np hA rfl rfl))).trans ((hF_26 (A + 9) j (fun h => absurd h.1 (np hA rfl rfl))).trans (hF_20 (A + 9) j (fun h => absurd h.1 (np hA rfl rfl))))))) (fun j => (hF_965 50 j (fun q => q.elim (fun h => absurd h.1 (nn rfl)) (fun q => q.elim (fun h => absurd h.1 (nn rfl)) (fun h => absurd h.1 (nn rfl))))).trans ((up_c (nn rfl)).trans ((up_c (nn rfl)).trans ((hF_939 50 j (fun h => absurd h.1 (nn rfl))).trans ((hF_934 50 j (fun h => absurd h.1 (nn rfl))).trans ((hF_924 50 j (fun h => absurd h.1 (nn rfl))).trans (hF_919 50 j (fun h => absurd h.1 (nn rfl))))))))) (fun j => (hF_965 51 j (fun q => q.elim (fun h => absurd h.1 (nn rfl)) (fun q => q.elim (fun h => absurd h.1 (nn rfl)) (fun h => absurd h.1 (nn rfl))))).trans ((up_c (nn rfl)).trans ((up_c (nn rfl)).trans ((hF_939 51 j (fun h => absurd h.1 (nn rfl))).trans ((hF_934 51 j (fun h => absurd h.1 (nn rfl))).trans ((hF_924 51 j (fun h => absurd h.1 (nn rfl))).trans (hF_919 51 j (fun h => absurd h.1 (nn rfl)))))))))
              refine v_cv rfl rfl rfl rfl (by decide) ⟨⟨rfl, rfl⟩, by decide, rfl⟩ (Nat.le_of_ble_eq_true rfl) (Nat.le_of_ble_eq_true rfl) (H13 (m := c_71) (e1 := e1) (f0 := c_71 1 4) (g0 := c_71 1 5) (p0 := c_71 1 2) (n0 := n0) (o0 := o0 + 1) (by omega) (by omega) hI_964 hI_72 hI_78 (show 0 ≤ a2 + 1 ∧ a2 + 1 ≤ 6 from ⟨by first | exact rgp_l ha2.1 (by decide) | omega, by first | (clear ha2 hq0 hq1 hq2 hq3 hq4 hq5 hq8 h_1 h_2 h_3 h_4 h_5 h_6 h_7 h_8 h_9 h_10 h_11 h_46 h_65 h_66 h_75 h_76 h_81 h_82 h_87 h_757 h_763 h_900 h_901 h_902 h_903 h_904 h_905 h_906 h_907 h_908 h_909 h_910 h_911 h_912 h_913 h_914 h_916 h_929 h_931 h_970 h_971 h_972 h_973 h_974 h_975 hq6 hq7 h_12 h_21 h_37 h_915 h_927 h_968 h_969; omega) | omega⟩) (by first | (clear ha2 hq0 hq1 hq2 hq3 hq4 hq5 hq8 h_1 h_2 h_3 h_4 h_5 h_6 h_7 h_8 h_9 h_10 h_11 h_46 h_65 h_66 h_70 h_81 h_82 h_87 h_757 h_763 h_900 h_901 h_902 h_903 h_904 h_905 h_906 h_907 h_908 h_909 h_910 h_911 h_912 h_913 h_914 h_916 h_929 h_931 h_970 h_971 h_972 h_973 h_974 h_975 hq6 hq7 h_12 h_21 h_37 h_915 h_927 h_968 h_969; omega) | omega) (by first | (clear ha2 hq0 hq1 hq2 hq3 hq4 hq5 hq8 h_1 h_2 h_3 h_4 h_5 h_6 h_7 h_8 h_9 h_10 h_11 h_46 h_65 h_66 h_70 h_75 h_76 h_81 h_82 h_87 h_757 h_763 h_900 h_901 h_902 h_903 h_904 h_905 h_906 h_907 h_908 h_909 h_910 h_911 h_912 h_913 h_914 h_916 h_929 h_931 h_970 h_971 h_973 h_974 hq6 hq7 h_12 h_21 h_37 h_915 h_927 h_968 h_969; omega) | omega) (by first | (clear ha2 hq0 hq1 hq3 hq4 hq5 hq8 h_1 h_2 h_3 h_4 h_5 h_6 h_7 h_8 h_9 h_10 h_11 h_46 h_65 h_66 h_70 h_75 h_76 h_81 h_82 h_87 h_757 h_763 h_900 h_901 h_902 h_903 h_904 h_905 h_906 h_907 h_908 h_909 h_910 h_911 h_912 h_913 h_914 h_916 h_929 h_931 h_970 h_971 h_972 h_973 h_974 h_975 hq6 hq7 h_12 h_21 h_37 h_915 h_927 h_968 h_969; omega) | omega) (by first | (clear ha2 hq0 hq1 hq2 hq8 h_3 h_4 h_8 h_9 h_11 h_65 h_66 h_70 h_81 h_82 h_87 h_757 h_763 h_900 h_901 h_902 h_903 h_904 h_905 h_906 h_907 h_908 h_909 h_910 h_911 h_912 h_913 h_914 h_916 h_929 h_974 h_927; omega) | omega) (by first | (clear ha2 hq0 hq1 hq2 hq3 hq8 h_3 h_4 h_5 h_6 h_7 h_8 h_9 h_11 h_65 h_66 h_70 h_75 h_76 h_81 h_82 h_87 h_757 h_763 h_900 h_901 h_902 h_903 h_904 h_905 h_906 h_907 h_908 h_909 h_910 h_911 h_912 h_913 h_914 h_916 h_929 h_931 h_971 h_972 h_973 h_974 h_927 h_969; omega) | omega) (by first | (clear ha2 hq0 hq1 hq2 hq3 hq4 hq8 h_1 h_2 h_3 h_4 h_5 h_6 h_7 h_8 h_9 h_10 h_11 h_46 h_65 h_66 h_70 h_75 h_76 h_81 h_82 h_87 h_757 h_763 h_900 h_901 h_902 h_903 h_904 h_905 h_906 h_907 h_908 h_909 h_910 h_911 h_912 h_913 h_914 h_916 h_929 h_931 h_970 h_971 h_972 h_973 h_974 h_975 hq6 hq7 h_12 h_21 h_37 h_915 h_927 h_968 h_969; omega) | omega) ((hid kn_976)) ((hid kn_977)) (rfl) (rfl) (rfl) ((hid kn_982)) ((hid kn_987)) ((hid kn_988)) (fun j => ((hF_73 2 j (fun q => q.elim (fun h => absurd h.1 (nn rfl)) (fun q => q.elim (fun h => absurd h.1 (nn rfl)) (fun h => absurd h.1 (nn rfl))))).trans ((hF_64 2 j (fun q => q.elim (fun h => absurd h.1 (nn rfl)) (fun q => q.elim (fun h => absurd h.1 (nn rfl)) (fun h => absurd h.1 (nn rfl))))).trans ((hF_36 2 j (fun h => absurd h.1 (nn rfl))).trans ((hF_26 2 j (fun h => absurd h.1 (nn rfl))).trans (hF_20 2 j (fun h => absurd h.1 (nn rfl))))))).trans (hF j)) (fun j => ((hF_965 43 j (fun q => q.elim (fun h => absurd h.1 (nn rfl)) (fun q => q.elim (fun h => absurd h.1 (nn rfl)) (fun h => absurd h.1 (nn rfl))))).trans ((up_c (nn rfl)).trans ((up_c (nn rfl)).trans ((hF_939 43 j (fun h => absurd h.1 (nn rfl))).trans ((hF_934 43 j (fun h => absurd h.1 (nn rfl))).trans ((hF_924 43 j (fun h => absurd h.1 (nn rfl))).trans (hF_919 43 j (fun h => absurd h.1 (nn rfl))))))))).trans (hH j)) hU hR_967 (ce_le hA_989 (by omega)) hG_80 (fun c_990 hI_991 hF_992 hR_994 h_995 h_996 hA_997 => ?_))
              refine bk_inl ?_
              have h_998 := ir_41_29 hI_991
              have h_999 := ir_p7_5 hI_78 hA
              have h_1000 := ir_1_2 hI_78
              have h_1001 := ir_41_7 hI_991
              refine q_aload_n rfl rfl ?_
              refine v_bip rfl (by decide) ?_
              have h_1002 := ir_41_5 hI_991
              have h_1003 := ir_1_5 hI_78
              have h_1004 := ir_41_4 hI_991
              have h_1005 := ir_41_6 hI_991
              have h_1006 := rt_ok hR_994 (by omega)
              have hro_hR_994 := rt_ok hR_994 (by omega)
              have kn_1007 : Hid (c_77 1 1 = e1) := (hF_79 1 1 (fun q => q.elim (fun h => absurd h.2 (ni rfl)) (fun q => q.elim (fun h => absurd h.2 (ni rfl)) (fun q => q.elim (fun h => absurd h.2 (ni rfl)) (fun q => q.elim (fun h => absurd h.1 (pn hA rfl rfl)) (fun h => absurd h (pn hA rfl rfl))))))).trans (hid kn_976)
              have kn_1008 : Hid (c_990 41 3 = e1) := (hF_992 41 3 (fun q => q.elim (fun h => absurd h.2 (ni rfl)) (fun q => q.elim (fun h => absurd h.2 (ni rfl)) (fun q => q.elim (fun h => absurd h.2 (ni rfl)) (fun q => q.elim (fun h => absurd h.2 (ni rfl)) (fun q => q.elim (fun h => absurd h.2 (ni rfl)) (fun q => q.elim (fun h => absurd h (nn rfl)) (fun h => absurd h (nn rfl))))))))).trans (hid kn_977)
              refine v_cv rfl rfl rfl rfl (by decide) ⟨⟨rfl, rfl⟩, by decide, rfl⟩ (Nat.le_of_ble_eq_true rfl) (Nat.le_of_ble_eq_true rfl) (L_11_4 (m := c_77) (e1 := e1) (a9 := c_77 1 2) (f0 := c_77 1 4) (F := F) (H := H) hI_991 hI_78 hI_84 ((hid kn_1007)) ((hid kn_1008)) (rfl) (rfl) (fun j => ((hF_79 2 j (fun q => q.elim (fun h => absurd h.1 (nn rfl)) (fun q => q.elim (fun h => absurd h.1 (nn rfl)) (fun q => q.elim (fun h => absurd h.1 (nn rfl)) (fun q => q.elim (fun h => absurd h.1 (pn hA rfl rfl)) (fun h => absurd h (pn hA rfl rfl))))))).trans ((hF_73 2 j (fun q => q.elim (fun h => absurd h.1 (nn rfl)) (fun q => q.elim (fun h => absurd h.1 (nn rfl)) (fun h => absurd h.1 (nn rfl))))).trans ((hF_64 2 j (fun q => q.elim (fun h => absurd h.1 (nn rfl)) (fun q => q.elim (fun h => absurd h.1 (nn rfl)) (fun h => absurd h.1 (nn rfl))))).trans ((hF_36 2 j (fun h => absurd h.1 (nn rfl))).trans ((hF_26 2 j (fun h => absurd h.1 (nn rfl))).trans (hF_20 2 j (fun h => absurd h.1 (nn rfl)))))))).trans (hF j)) (fun j => ((hF_992 43 j (fun q => q.elim (fun h => absurd h.1 (nn rfl)) (fun q => q.elim (fun h => absurd h.1 (nn rfl)) (fun q => q.elim (fun h => absurd h.1 (nn rfl)) (fun q => q.elim (fun h => absurd h.1 (nn rfl)) (fun q => q.elim (fun h => absurd h.1 (nn rfl)) (fun q => q.elim (fun h => absurd h (nn rfl)) (fun h => absurd h (nn rfl))))))))).trans ((hF_965 43 j (fun q => q.elim (fun h => absurd h.1 (nn rfl)) (fun q => q.elim (fun h => absurd h.1 (nn rfl)) (fun h => absurd h.1 (nn rfl))))).trans ((up_c (nn rfl)).trans ((up_c (nn rfl)).trans ((hF_939 43 j (fun h => absurd h.1 (nn rfl))).trans ((hF_934 43 j (fun h => absurd h.1 (nn rfl))).trans ((hF_924 43 j (fun h => absurd h.1 (nn rfl))).trans (hF_919 43 j (fun h => absurd h.1 (nn rfl)))))))))).trans (hH j)) hU hR_994 hG_86 (fun c_1009 hI_1010 hF_1011 hR_1013 h_1014 h_1015 => ?_))
              refine bk_inl ?_
              have h_1016 := ir_1_2 hI_84
              refine q_aload_n rfl rfl ?_
              have h_1017 := ir_41_5 hI_1010
              have h_1018 := ir_41_4 hI_1010
              have h_1019 := ir_41_6 hI_1010
              have h_1020 := rt_bad hR_1013 (by omega)
              have hrb_hR_1013 := rt_bad hR_1013 (by omega)
              have h_1021 : ¬ c_1009 41 5 = -1 := by rw [show c_1009 41 5 = c_83 1 5 from hrb_hR_1013.2.1]; omega
              refine v_cv rfl rfl rfl rfl (by decide) ⟨⟨rfl, rfl⟩, by decide, rfl⟩ (Nat.le_of_ble_eq_true rfl) (Nat.le_of_ble_eq_true rfl) (n_174 hI_1010 (by omega) ?_)
              refine bk_inl ?_
              refine q_aload_n rfl rfl ?_
              refine v_bip rfl (by decide) ?_
              refine v_cv rfl rfl rfl rfl (by decide) ⟨⟨rfl, rfl⟩, by decide, rfl⟩ (Nat.le_of_ble_eq_true rfl) (Nat.le_of_ble_eq_true rfl) ?_
              refine q_aload_n rfl rfl ?_
              refine v_cv rfl rfl rfl rfl (by decide) ⟨⟨rfl, rfl⟩, by decide, rfl⟩ (Nat.le_of_ble_eq_true rfl) (Nat.le_of_ble_eq_true rfl) ?_
              refine q_aload_n rfl rfl ?_
              refine v_gi (z := 5) (v := c_83 1 5) rfl rfl rfl (by decide) rfl rfl hrb_hR_1013.2.1 ?_
              refine q_iconst rfl ?_
              refine v_ic_ne_t (t := 12) rfl (by decide) ⟨by first | (clear ha2 hq0 hq1 hq2 hq3 hq4 hq5 hq8 h_1 h_2 h_3 h_4 h_5 h_6 h_7 h_8 h_9 h_10 h_11 h_46 h_65 h_66 h_70 h_75 h_76 h_81 h_82 h_87 h_757 h_763 h_900 h_901 h_902 h_903 h_904 h_905 h_906 h_907 h_908 h_909 h_910 h_911 h_912 h_913 h_914 h_916 h_929 h_931 h_970 h_971 h_972 h_973 h_974 h_975 h_998 h_999 h_1000 h_1001 h_996 h_1002 h_1003 h_1004 h_1005 h_1006 h_1016 h_1017 h_1018 h_1019 hq6 hq7 h_12 h_21 h_37 h_915 h_927 h_968 h_969 h_995 h_1014 h_1015; omega) | omega, ⟨(Int.le_trans (by decide) h_757.1), (Int.le_trans h_757.2 (by decide))⟩, by decide, by decide⟩ ?_
              refine q_iconst rfl ?_
              refine v_zret rfl rfl (by decide) ?_
              refine bk_inl ?_
              refine v_if_eq_t (t := 24) rfl (by decide) (by decide) ?_
              refine q_aload_n rfl rfl ?_
              refine v_cv rfl rfl rfl rfl (by decide) ⟨⟨rfl, rfl⟩, by decide, rfl⟩ (Nat.le_of_ble_eq_true rfl) (Nat.le_of_ble_eq_true rfl) ?_
              refine q_aload_n rfl rfl ?_
              refine v_gi (z := 5) (v := c_83 1 5) rfl rfl rfl (by decide) rfl rfl hrb_hR_1013.2.1 ?_
              refine q_iconst rfl ?_
              refine v_ic_ne_t (t := 12) rfl (by decide) ⟨by first | (clear ha2 hq0 hq1 hq2 hq3 hq4 hq5 hq8 h_1 h_2 h_3 h_4 h_5 h_6 h_7 h_8 h_9 h_10 h_11 h_46 h_65 h_66 h_70 h_75 h_76 h_81 h_82 h_87 h_757 h_763 h_900 h_901 h_902 h_903 h_904 h_905 h_906 h_907 h_908 h_909 h_910 h_911 h_912 h_913 h_914 h_916 h_929 h_931 h_970 h_971 h_972 h_973 h_974 h_975 h_998 h_999 h_1000 h_1001 h_996 h_1002 h_1003 h_1004 h_1005 h_1006 h_1016 h_1017 h_1018 h_1019 hq6 hq7 h_12 h_21 h_37 h_915 h_927 h_968 h_969 h_995 h_1014 h_1015; omega) | omega, ⟨(Int.le_trans (by decide) h_757.1), (Int.le_trans h_757.2 (by decide))⟩, by decide, by decide⟩ ?_
              refine q_iconst rfl ?_
              refine v_zret rfl rfl (by decide) ?_
              refine bk_inl ?_
              refine v_if_eq_t (t := 41) rfl (by decide) (by decide) ?_
              refine q_vret rfl rfl ?_
              refine bk_inl ?_
              refine q_aload_n rfl rfl ?_
              refine q_dup rfl rfl ?_
              have kn_1022 : Hid (c_1009 41 7 = c_990 41 7) := hF_1011 41 7 (fun q => q.elim (fun h => absurd h.2 (ni rfl)) (fun q => q.elim (fun h => absurd h.2 (ni rfl)) (fun h => absurd h.2 (ni rfl))))
              refine v_gi (z := 7) (v := c_990 41 7) rfl rfl rfl (by decide) rfl rfl (hid kn_1022) ?_
              refine q_iconst rfl ?_
              refine v_isub (v := c_990 41 7 - 1) rfl rfl ?_
              refine v_pi (z := 7) rfl rfl rfl (by decide) rfl rfl rfl (by decide) ?_
              refine q_aload_n rfl rfl ?_
              refine q_iload_n rfl rfl ?_
              refine q_iconst rfl ?_
              refine v_cv rfl rfl rfl rfl (by decide) ⟨⟨rfl, rfl⟩, by decide, rfl⟩ (Nat.le_of_ble_eq_true rfl) (Nat.le_of_ble_eq_true rfl) ?_
              refine q_aload_n rfl rfl ?_
              refine v_cv rfl rfl rfl rfl (by decide) ⟨⟨rfl, rfl⟩, by decide, rfl⟩ (Nat.le_of_ble_eq_true rfl) (Nat.le_of_ble_eq_true rfl) ?_
              refine q_aload_n rfl rfl ?_
              refine v_gi (z := 5) (v := c_83 1 5) rfl rfl rfl (by decide) rfl rfl (((up_n (by decide))).trans (hrb_hR_1013.2.1)) ?_
              refine q_iconst rfl ?_
              refine v_ic_ne_t (t := 12) rfl (by decide) ⟨by first | (clear ha2 hq0 hq1 hq2 hq3 hq4 hq5 hq8 h_1 h_2 h_3 h_4 h_5 h_6 h_7 h_8 h_9 h_10 h_11 h_46 h_65 h_66 h_70 h_75 h_76 h_81 h_82 h_87 h_757 h_763 h_900 h_901 h_902 h_903 h_904 h_905 h_906 h_907 h_908 h_909 h_910 h_911 h_912 h_913 h_914 h_916 h_929 h_931 h_970 h_971 h_972 h_973 h_974 h_975 h_998 h_999 h_1000 h_1001 h_996 h_1002 h_1003 h_1004 h_1005 h_1006 h_1016 h_1017 h_1018 h_1019 hq6 hq7 h_12 h_21 h_37 h_915 h_927 h_968 h_969 h_995 h_1014 h_1015; omega) | omega, ⟨(Int.le_trans (by decide) h_757.1), (Int.le_trans h_757.2 (by decide))⟩, by decide, by decide⟩ ?_
              refine q_iconst rfl ?_
              refine v_zret rfl rfl (by decide) ?_
              refine bk_inl ?_
              refine v_if_ne_f (t := 8) rfl (by decide) (by decide) ?_
              refine q_vret rfl rfl ?_
              refine bk_inl ?_
              refine q_vret rfl rfl ?_
              refine bk_inl ?_
              refine q_goto (t := 154) rfl (by decide) ?_
              refine q_vret rfl rfl ?_
              have hI_1023 := iw_41_7 (v := c_990 41 7 - 1) hI_1010 ⟨by first | (clear hq0 hq1 hq2 hq3 hq4 hq5 hq8 h_1 h_2 h_3 h_4 h_5 h_6 h_7 h_8 h_9 h_10 h_11 h_46 h_65 h_66 h_70 h_75 h_76 h_81 h_82 h_87 h_757 h_763 h_900 h_901 h_902 h_903 h_904 h_905 h_906 h_907 h_908 h_909 h_910 h_911 h_912 h_913 h_914 h_916 h_929 h_931 h_970 h_971 h_972 h_973 h_974 h_975 h_998 h_999 h_1000 h_1001 h_1002 h_1003 h_1004 h_1005 h_1006 h_1016 h_1017 h_1018 h_1019 h_1020 hq6 hq7 h_12 h_21 h_37 h_915 h_927 h_968 h_969 h_995 h_1014 h_1015; omega) | omega, by first | exact rgm_h h_1001.2 (by decide) | omega⟩
              have h_1024 : (up c_1009 41 7 (c_990 41 7 - 1)) 41 5 = c_83 1 5 := (((up_n (by decide))).trans (hrb_hR_1013.2.1))
              have h_1025 : (up c_1009 41 7 (c_990 41 7 - 1)) 41 4 = c_1009 41 4 := (up_n (by decide))
              have h_1026 : (up c_1009 41 7 (c_990 41 7 - 1)) 41 6 = c_83 1 4 := (((up_n (by decide))).trans (hrb_hR_1013.2.2.2))
              have kn_1027 : Hid (c_1009 41 29 = c_990 41 29) := hF_1011 41 29 (fun q => q.elim (fun h => absurd h.2 (ni rfl)) (fun q => q.elim (fun h => absurd h.2 (ni rfl)) (fun h => absurd h.2 (ni rfl))))
              have h_1028 : (up c_1009 41 7 (c_990 41 7 - 1)) 41 29 = c_990 41 29 := ((up_n (by decide)).trans (hid kn_1027))
              have h_1029 : (up c_1009 41 7 (c_990 41 7 - 1)) 41 7 = c_990 41 7 - 1 := (up_e rfl)
              have h_1030 : (up c_1009 41 7 (c_990 41 7 - 1)) 41 29 = c_990 41 29 := ((up_n (by decide)).trans (hid kn_1027))
              exact K (up c_1009 41 7 (c_990 41 7 - 1))  hI_1023 (fun a j hm => (up_b (Decidable.or_iff_not_imp_left.mpr (fun h1 h2 => hm (Or.inr (Or.inr (Or.inr (Or.inl ⟨Decidable.not_not.mp h1, h2⟩))))))).trans ((hF_1011 a j (fun q => q.elim (fun h => hm (Or.inl h)) (fun q => q.elim (fun h => hm (Or.inr (Or.inl h))) (fun h => hm (Or.inr (Or.inr (Or.inl h))))))).trans ((hF_992 a j (fun q => q.elim (fun h => hm (Or.inl h)) (fun q => q.elim (fun h => hm (Or.inr (Or.inl h))) (fun q => q.elim (fun h => hm (Or.inr (Or.inr (Or.inl h)))) (fun q => q.elim (fun h => hm (Or.inr (Or.inr (Or.inr (Or.inl h))))) (fun q => q.elim (fun h => hm (Or.inr (Or.inr (Or.inr (Or.inr (Or.inl h)))))) (fun q => q.elim (fun h => hm (Or.inr (Or.inr (Or.inr (Or.inr (Or.inr (Or.inl h))))))) (fun h => hm (Or.inr (Or.inr (Or.inr (Or.inr (Or.inr (Or.inr h)))))))))))))).trans ((hF_965 a j (fun q => q.elim (fun h => hm (Or.inl h)) (fun q => q.elim (fun h => hm (Or.inr (Or.inl h))) (fun h => hm (Or.inr (Or.inr (Or.inl h))))))).trans ((up_b (Decidable.or_iff_not_imp_left.mpr (fun h1 h2 => hm (Or.inr (Or.inr (Or.inr (Or.inl ⟨Decidable.not_not.mp h1, h2⟩))))))).trans ((up_b (Decidable.or_iff_not_imp_left.mpr (fun h1 h2 => hm (Or.inl ⟨Decidable.not_not.mp h1, h2⟩)))).trans ((hF_939 a j (fun h => hm (Or.inl h))).trans ((hF_934 a j (fun h => hm (Or.inl h))).trans ((hF_924 a j (fun h => hm (Or.inl h))).trans (hF_919 a j (fun h => hm (Or.inl h)))))))))))) (rt_i2 ⟨⟨by first | (clear ha2 hq0 hq1 hq2 hq3 hq4 hq5 hq8 h_1 h_2 h_3 h_4 h_5 h_6 h_7 h_8 h_9 h_10 h_11 h_46 h_65 h_66 h_70 h_75 h_76 h_81 h_82 h_87 h_757 h_763 h_900 h_902 h_903 h_904 h_905 h_906 h_907 h_908 h_909 h_910 h_911 h_912 h_913 h_914 h_916 h_929 h_931 h_970 h_971 h_972 h_973 h_974 h_975 h_998 h_999 h_1000 h_1001 h_996 h_1002 h_1003 h_1004 h_1005 h_1006 h_1016 h_1017 h_1018 h_1019 hq6 hq7 h_12 h_21 h_37 h_915 h_927 h_968 h_969 h_995 h_1014 h_1015; omega) | omega, by first | (clear ha2 hq0 hq1 hq2 hq3 hq4 hq5 hq8 h_1 h_2 h_3 h_4 h_5 h_6 h_7 h_8 h_9 h_10 h_11 h_46 h_65 h_66 h_70 h_75 h_76 h_81 h_82 h_87 h_757 h_763 h_901 h_902 h_903 h_904 h_905 h_906 h_907 h_908 h_909 h_910 h_911 h_912 h_913 h_914 h_916 h_929 h_931 h_970 h_971 h_972 h_973 h_974 h_975 h_998 h_999 h_1000 h_1001 h_996 h_1002 h_1003 h_1004 h_1005 h_1006 h_1016 h_1017 h_1018 h_1019 h_1020 hq6 hq7 h_12 h_21 h_37 h_915 h_927 h_968 h_969 h_995 h_1014 h_1015; omega) | omega⟩, by first | (clear ha2 hq0 hq1 hq2 hq3 hq4 hq5 hq8 h_1 h_2 h_3 h_4 h_5 h_6 h_7 h_8 h_9 h_10 h_11 h_46 h_65 h_66 h_70 h_75 h_76 h_81 h_82 h_87 h_757 h_763 h_900 h_901 h_902 h_903 h_904 h_905 h_907 h_908 h_909 h_910 h_911 h_912 h_913 h_914 h_916 h_929 h_931 h_970 h_971 h_972 h_973 h_974 h_975 h_998 h_999 h_1000 h_1001 h_996 h_1002 h_1003 h_1004 h_1005 h_1006 h_1016 h_1017 h_1018 h_1019 h_1020 hq6 hq7 h_12 h_21 h_37 h_915 h_927 h_968 h_969 h_995 h_1014 h_1015; omega) | omega, by first | (clear ha2 hq0 hq1 hq2 hq3 hq4 hq5 hq8 h_1 h_2 h_3 h_4 h_5 h_6 h_7 h_8 h_9 h_10 h_11 h_46 h_65 h_66 h_70 h_75 h_76 h_81 h_82 h_87 h_757 h_763 h_900 h_901 h_902 h_903 h_904 h_905 h_907 h_908 h_909 h_910 h_911 h_912 h_913 h_914 h_916 h_929 h_931 h_970 h_971 h_972 h_973 h_974 h_975 h_998 h_999 h_1000 h_1001 h_996 h_1002 h_1003 h_1004 h_1005 h_1006 h_1016 h_1017 h_1018 h_1019 hq6 hq7 h_12 h_21 h_37 h_915 h_927 h_968 h_969 h_995 h_1014 h_1015; omega) | omega, by first | (clear ha2 hq0 hq1 hq2 hq3 hq4 hq5 hq8 h_1 h_2 h_3 h_4 h_5 h_6 h_7 h_8 h_9 h_10 h_11 h_46 h_65 h_66 h_70 h_75 h_76 h_81 h_82 h_87 h_757 h_763 h_900 h_902 h_903 h_904 h_905 h_906 h_907 h_908 h_909 h_910 h_911 h_912 h_913 h_914 h_916 h_929 h_931 h_970 h_971 h_972 h_973 h_974 h_975 h_998 h_999 h_1000 h_1001 h_996 h_1002 h_1003 h_1004 h_1005 h_1006 h_1016 h_1017 h_1018 h_1019 h_1020 hq6 hq7 h_12 h_21 h_37 h_915 h_927 h_968 h_969 h_995 h_1014 h_1015; omega) | omega⟩) (Or.inr (Or.inl (by first | (clear ha2 hq0 hq1 hq2 hq3 hq4 hq5 hq8 h_1 h_2 h_3 h_4 h_5 h_6 h_7 h_8 h_9 h_10 h_11 h_46 h_65 h_66 h_70 h_75 h_76 h_81 h_82 h_87 h_757 h_763 h_900 h_902 h_903 h_904 h_905 h_906 h_907 h_908 h_909 h_910 h_911 h_912 h_913 h_914 h_916 h_929 h_931 h_970 h_971 h_972 h_973 h_974 h_975 h_998 h_999 h_1000 h_1001 h_996 h_1002 h_1003 h_1004 h_1005 h_1006 h_1016 h_1017 h_1018 h_1019 hq6 hq7 h_12 h_21 h_37 h_915 h_927 h_968 h_969 h_995 h_1014 h_1015; omega) | omega))) (by first | (clear ha2 hq0 hq1 hq2 hq3 hq4 hq5 hq8 h_1 h_2 h_3 h_4 h_5 h_6 h_7 h_8 h_9 h_10 h_11 h_46 h_65 h_66 h_70 h_75 h_76 h_81 h_82 h_87 h_757 h_763 h_900 h_901 h_902 h_903 h_904 h_905 h_906 h_907 h_908 h_909 h_910 h_911 h_912 h_913 h_914 h_916 h_929 h_931 h_970 h_971 h_972 h_973 h_974 h_975 h_998 h_999 h_1000 h_1001 h_1002 h_1003 h_1004 h_1005 h_1006 h_1016 h_1017 h_1018 h_1019 h_1020 hq6 hq7 h_12 h_21 h_37 h_915 h_927 h_968 h_969 h_995 h_1014 h_1015; omega) | omega) (fun hz => absurd hz (by omega))
      · as_aux_lemma =>
          skip
          refine v_cv rfl rfl rfl rfl (by decide) ⟨⟨rfl, rfl⟩, by decide, rfl⟩ (Nat.le_of_ble_eq_true rfl) (Nat.le_of_ble_eq_true rfl) ?_
          refine q_aload_n rfl rfl ?_
          refine v_cv rfl rfl rfl rfl (by decide) ⟨⟨rfl, rfl⟩, by decide, rfl⟩ (Nat.le_of_ble_eq_true rfl) (Nat.le_of_ble_eq_true rfl) ?_
          refine q_aload_n rfl rfl ?_
          refine v_gi (z := 4) (v := c_77 1 4) rfl rfl rfl (by decide) rfl rfl rfl ?_
          refine v_if_ne_t (t := 11) rfl (by decide) ⟨by first | (clear ha2 hq0 hq1 hq2 hq3 hq4 hq5 hq8 h_1 h_2 h_3 h_4 h_5 h_6 h_7 h_8 h_9 h_10 h_11 h_46 h_65 h_66 h_70 h_75 h_76 h_81 hq6 hq7 h_12 h_21 h_37; omega) | omega, ⟨(Int.le_trans (by decide) h_81.1), (Int.le_trans h_81.2 (by decide))⟩, by decide, by decide⟩ ?_
          refine q_iconst rfl ?_
          refine v_zret rfl rfl (by decide) ?_
          refine bk_inl ?_
          refine v_if_eq_t (t := 25) rfl (by decide) (by decide) ?_
          refine q_vret rfl rfl ?_
          refine bk_inl ?_
          refine q_aload_n rfl rfl ?_
          refine q_aload_n rfl rfl ?_
          refine q_iload_n rfl rfl ?_
          refine q_iconst rfl ?_
          refine v_iadd (v := a2 + 1) rfl rfl ?_
          have h_1031 := ir_1_5 hI_78
          refine v_cv rfl rfl rfl (ck_p7 hA) (a68 hA rfl) ⟨⟨rfl, rfl⟩, by decide, rfl⟩ (Nat.le_of_ble_eq_true rfl) (Nat.le_of_ble_eq_true rfl) (b_13 (a2 := a2 + 1) (f9 := c_77 1 4) (p9 := c_77 1 5) hI_78 hA (show 0 ≤ a2 + 1 ∧ a2 + 1 ≤ 6 from ⟨by first | exact rgp_l ha2.1 (by decide) | omega, by first | (clear ha2 hq0 hq1 hq2 hq3 hq4 hq5 hq8 h_1 h_2 h_3 h_4 h_5 h_6 h_7 h_8 h_9 h_10 h_11 h_46 h_65 h_66 h_75 h_76 h_81 hq6 hq7 h_12 h_21 h_37; omega) | omega⟩) (by omega) (rfl) (rfl) (fun c_1032 hI_1033 hF_1034 hz_1035 hz_1036 => ?_))
          refine bk_inl ?_
          refine q_aload_n rfl rfl ?_
          refine q_ldc_s rfl rfl rfl (by decide) ?_
          refine v_cv rfl rfl rfl rfl (by decide) ⟨⟨rfl, rfl⟩, by decide, rfl⟩ (Nat.le_of_ble_eq_true rfl) (Nat.le_of_ble_eq_true rfl) ?_
          refine q_aload_n rfl rfl ?_
          refine v_cv rfl rfl rfl rfl (by decide) ⟨⟨rfl, rfl⟩, by decide, rfl⟩ (Nat.le_of_ble_eq_true rfl) (Nat.le_of_ble_eq_true rfl) ?_
          refine q_aload_n rfl rfl ?_
          refine v_gi (z := 4) (v := c_77 1 4) rfl rfl rfl (by decide) rfl rfl (hz_1035) ?_
          refine v_if_ne_t (t := 11) rfl (by decide) ⟨by first | (clear ha2 hq0 hq1 hq2 hq3 hq4 hq5 hq8 h_1 h_2 h_3 h_4 h_5 h_6 h_7 h_8 h_9 h_10 h_11 h_46 h_65 h_66 h_70 h_75 h_76 h_81 h_1031 hq6 hq7 h_12 h_21 h_37; omega) | omega, ⟨(Int.le_trans (by decide) h_81.1), (Int.le_trans h_81.2 (by decide))⟩, by decide, by decide⟩ ?_
          refine q_iconst rfl ?_
          refine v_zret rfl rfl (by decide) ?_
          refine bk_inl ?_
          refine v_if_eq_t (t := 25) rfl (by decide) (by decide) ?_
          refine q_vret rfl rfl ?_
          refine bk_inl ?_
          refine q_aload_n rfl rfl ?_
          refine v_sip rfl (by decide) ?_
          refine q_iload rfl rfl ?_
          refine v_iadd (v := (wd1_0 F (nx F e1 p0) (ln F e1 (nx F e1 p0))) + 2005) rfl (by first | (clear ha2 hq0 hq1 hq2 hq3 hq4 hq5 hq8 h_1 h_2 h_3 h_4 h_5 h_6 h_7 h_8 h_9 h_10 h_11 h_46 h_65 h_66 h_70 h_75 h_76 h_81 h_1031 hq6 hq7 h_12 h_21 h_37; omega) | omega) ?_
          refine v_bip rfl (by decide) ?_
          refine v_isub (v := (wd1_0 F (nx F e1 p0) (ln F e1 (nx F e1 p0))) + 1997) rfl (by first | (clear ha2 hq0 hq1 hq2 hq3 hq4 hq5 hq8 h_1 h_2 h_3 h_4 h_5 h_6 h_7 h_8 h_9 h_10 h_11 h_46 h_65 h_66 h_70 h_75 h_76 h_81 h_1031 hq6 hq7 h_12 h_21 h_37; omega) | omega) ?_
          refine v_cv rfl rfl rfl (ck_p7 hA) (a68 hA rfl) ⟨⟨rfl, rfl⟩, by decide, rfl⟩ (Nat.le_of_ble_eq_true rfl) (Nat.le_of_ble_eq_true rfl) ?_
          refine q_aload_n rfl rfl ?_
          have h_1037 := ir_p7_5 hI_1033 hA
          refine v_gi (z := 5) (v := c_1032 (A + 7) 5) rfl rfl (ck_p7 hA) (a68 hA rfl) rfl rfl rfl ?_
          refine q_aload_n rfl rfl ?_
          refine v_gr (t := (A + 9)) rfl rfl (ck_p7 hA) (a68 hA rfl) rfl ?_
          refine v_al rfl (ck_p9 hA) (a68 hA rfl) (by decide) ?_
          by_cases h_1038 : c_1032 (A + 7) 5 ≥ 150
          · refine v_ic_ge_t (t := 32) rfl (by decide) ⟨by decide, h_1038, (Int.le_trans h_1037.2 (by decide))⟩ ?_
            refine q_vret rfl rfl ?_
            refine bk_inl ?_
            refine q_vret rfl rfl ?_
            intro hE_1039
            have hW : Wd P Q P P c_1032 = Wd P Q P P m9 := (Prod.mk.inj (Prod.mk.inj hE_1039).2).1
            have h_1040 := ir_1_4 hJ9
            have h_1041 : m9 1 4 = c_77 1 4 := wd_fv (z := 4) 4 rfl hW rfl rfl rfl rfl (by decide) (hz_1035) ⟨(Int.le_trans (by decide) h_81.1), (Int.le_trans h_81.2 (by decide))⟩ ⟨(Int.le_trans (by decide) h_1040.1), (Int.le_trans h_1040.2 (by decide))⟩
            have h_1042 := ir_1_2 hI_1033
            have h_1043 := ir_1_2 hJ9
            have h_1044 : m9 1 2 = c_1032 1 2 := wd_fv (z := 2) 2 rfl hW rfl rfl rfl rfl (by decide) rfl ⟨(Int.le_trans (by decide) h_1042.1), (Int.le_trans h_1042.2 (by decide))⟩ ⟨(Int.le_trans (by decide) h_1043.1), (Int.le_trans h_1043.2 (by decide))⟩
            have h_1045 := ir_1_5 hJ9
            have h_1046 : m9 1 5 = c_77 1 5 := wd_fv (z := 5) 5 rfl hW rfl rfl rfl rfl (by decide) (hz_1036) ⟨(Int.le_trans (by decide) h_1031.1), (Int.le_trans h_1031.2 (by decide))⟩ ⟨(Int.le_trans (by decide) h_1045.1), (Int.le_trans h_1045.2 (by decide))⟩
            have h_1047 := ir_p7_5 hJ9 hA
            have h_1048 : m9 (A + 7) 5 = c_1032 (A + 7) 5 := wd_fv (z := 5) 5 rfl hW (ck_p7 hA) (ck_p7 hA) rfl rfl (by omega) rfl ⟨(Int.le_trans (by decide) h_1037.1), (Int.le_trans h_1037.2 (by decide))⟩ ⟨(Int.le_trans (by decide) h_1047.1), (Int.le_trans h_1047.2 (by decide))⟩
            refine q_aload_n rfl rfl ?_
            refine v_cv rfl rfl rfl rfl (by decide) ⟨⟨rfl, rfl⟩, by decide, rfl⟩ (Nat.le_of_ble_eq_true rfl) (Nat.le_of_ble_eq_true rfl) ?_
            refine q_aload_n rfl rfl ?_
            have h_1049 := ir_41_5 hI
            have h_1050 := ir_41_4 hI
            have h_1051 := ir_41_6 hI
            have h_1052 := rt_ok hRt (by omega)
            have hro_hRt := rt_ok hRt (by omega)
            refine v_gi (z := 5) (v := (-1)) rfl rfl rfl (by decide) rfl rfl hro_hRt.2.1 ?_
            refine q_iconst rfl ?_
            refine v_ic_ne_f (t := 12) rfl (by decide) (by decide) ?_
            refine q_iconst rfl ?_
            refine q_goto (t := 13) rfl (by decide) ?_
            refine v_zret rfl rfl (by decide) ?_
            refine bk_inl ?_
            refine v_if_ne_t (t := 8) rfl (by decide) (by decide) ?_
            refine q_aload_n rfl rfl ?_
            have h_1053 : -2147483648 ≤ (H (nx F e1 p0)) ∧ (H (nx F e1 p0)) ≤ 2147483647 := by rw [← hH (nx F e1 p0)]; exact ir_43 hI (nx F e1 p0)
            have h_1054 := hU (nx F e1 p0) (by omega) (by omega)
            have h_1055 := hb_or (b := H) (e := e1) (r := (nx F e1 p0))
            have h_1056 := hb_bd (b := H) (e := e1) (r := (nx F e1 p0)) (lo := -2147483648) (hi := 2147483647) h_1053 (by decide)
            refine v_cv rfl rfl rfl rfl (by decide) ⟨⟨rfl, rfl⟩, by decide, rfl⟩ (Nat.le_of_ble_eq_true rfl) (Nat.le_of_ble_eq_true rfl) (f_154 (e1 := e1) (a9 := p0) (B := H) (r8 := (nx F e1 p0)) (r := (hb H e1 (nx F e1 p0))) hI ((hr_e1)) (((hro_hRt.2.2.1).trans ((hg_p0)))) (fun j => hH j) ((nx_tr hU (by first | (clear ha2 hq0 hq1 hq2 hq3 hq4 hq5 hq8 h_1 h_2 h_3 h_4 h_6 h_7 h_8 h_9 h_10 h_11 h_46 h_65 h_66 h_70 h_75 h_76 h_81 h_1031 h_1037 h_1038 h_1040 h_1041 h_1042 h_1043 h_1044 h_1045 h_1046 h_1047 h_1048 h_1049 h_1050 h_1051 h_1052 hq6 hq7 h_12 h_21 h_37; omega) | omega) (by first | (clear ha2 hq0 hq1 hq2 hq3 hq4 hq8 h_1 h_2 h_3 h_4 h_5 h_6 h_7 h_8 h_9 h_10 h_11 h_46 h_65 h_66 h_70 h_75 h_76 h_81 h_1031 h_1037 h_1038 h_1040 h_1041 h_1042 h_1043 h_1044 h_1045 h_1046 h_1047 h_1048 h_1049 h_1050 h_1051 h_1052 hq6 hq7 h_12 h_21 h_37; omega) | omega)).trans (rfl)) rfl (fun c_1057 hI_1058 hF_1059 h_1060 => ?_))
            refine bk_inl ?_
            refine v_bip rfl (by decide) ?_
            refine v_ic_ne_t (t := 45) rfl (by decide) ⟨by first | (clear ha2 hq0 hq1 hq2 hq3 hq8 h_3 h_4 h_5 h_6 h_7 h_8 h_9 h_11 h_65 h_66 h_70 h_75 h_76 h_81 h_1031 h_1037 h_1038 h_1040 h_1041 h_1042 h_1043 h_1044 h_1045 h_1046 h_1047 h_1048 h_1049 h_1050 h_1051 h_1052; omega) | omega, ⟨h_1056.1, h_1056.2⟩, by decide, by decide⟩ ?_
            refine q_aload_n rfl rfl ?_
            have kn_1061 : Hid (c_1057 41 3 = e1) := (hF_1059 41 3 (fun h => absurd h.2 (ni rfl))).trans (hr_e1)
            refine v_cv rfl rfl rfl rfl (by decide) ⟨⟨rfl, rfl⟩, by decide, rfl⟩ (Nat.le_of_ble_eq_true rfl) (Nat.le_of_ble_eq_true rfl) (f_154 (e1 := e1) (a9 := (nx F e1 p0)) (B := H) (r8 := (nx F e1 p0)) (r := (hb H e1 (nx F e1 p0))) hI_1058 ((hid kn_1061)) ((h_1060)) (fun j => (hF_1059 43 j (fun h => absurd h.1 (nn rfl))).trans (hH j)) ((nx_tr hU (by first | (clear ha2 hq0 hq1 hq2 hq3 hq4 hq5 hq8 h_1 h_2 h_3 h_4 h_6 h_7 h_8 h_9 h_11 h_46 h_65 h_66 h_70 h_75 h_76 h_81 h_1031 h_1037 h_1038 h_1040 h_1041 h_1042 h_1043 h_1044 h_1045 h_1046 h_1047 h_1048 h_1049 h_1050 h_1051 h_1052 h_1053 h_1054 h_1056 hq6 hq7 h_12 h_21 h_37 h_1055; omega) | omega) (by first | (clear ha2 hq0 hq1 hq2 hq3 hq4 hq8 h_1 h_2 h_3 h_4 h_5 h_6 h_7 h_8 h_9 h_10 h_11 h_46 h_65 h_66 h_70 h_75 h_76 h_81 h_1031 h_1037 h_1038 h_1040 h_1041 h_1042 h_1043 h_1044 h_1045 h_1046 h_1047 h_1048 h_1049 h_1050 h_1051 h_1052 h_1053 h_1054 h_1056 hq6 hq7 h_12 h_21 h_37 h_1055; omega) | omega)).trans ((nx_z (by omega)))) rfl (fun c_1062 hI_1063 hF_1064 h_1065 => ?_))
            refine bk_inl ?_
            refine q_call rfl rfl rfl rfl (f_156 (a0 := (hb H e1 (nx F e1 p0))) hI_1063 (show (-2147483648) ≤ (hb H e1 (nx F e1 p0)) ∧ (hb H e1 (nx F e1 p0)) ≤ 2147483647 from h_1056) (fun y_1066 hy_1066 h_1067 => ?_))
            refine bk_inl ?_
            refine v_if_eq_t (t := 71) rfl (by decide) (by first | (clear ha2 hq0 hq1 hq2 hq3 hq8 h_3 h_4 h_5 h_6 h_7 h_8 h_9 h_11 h_65 h_66 h_70 h_75 h_76 h_81 h_1031 h_1037 h_1038 h_1040 h_1041 h_1042 h_1043 h_1044 h_1045 h_1046 h_1047 h_1048 h_1049 h_1050 h_1051 h_1052; omega) | omega) ?_
            refine q_aload_n rfl rfl ?_
            have kn_1068 : Hid (c_1062 41 3 = e1) := (hF_1064 41 3 (fun h => absurd h.2 (ni rfl))).trans (hid kn_1061)
            have h_1069 := wv_bd (b := F) (r := (nx F e1 p0)) (l := (ln F e1 (nx F e1 p0))) (fun j h1 h2 => ⟨(ln_in (e := e1) (a := (nx F e1 p0)) h1 h2).1, (ln_in (e := e1) (a := (nx F e1 p0)) h1 h2).2.1⟩)
            have h_1070 := wr1_9 (b := F) (r := (nx F e1 p0)) (l := (ln F e1 (nx F e1 p0))) (by omega) (fun j h1 h2 => ⟨(ln_in (e := e1) (a := (nx F e1 p0)) h1 h2).1, (ln_in (e := e1) (a := (nx F e1 p0)) h1 h2).2.1⟩) (by omega)
            have h_1071 : (wv F (nx F e1 p0) (ln F e1 (nx F e1 p0))) = 441972 → (ln F e1 (nx F e1 p0)) - (nx F e1 p0) = 4 := wl_most (by omega) (fun j h1 h2 => ⟨(ln_in (e := e1) (a := (nx F e1 p0)) h1 h2).1, (ln_in (e := e1) (a := (nx F e1 p0)) h1 h2).2.1⟩)
            refine v_cv rfl rfl rfl rfl (by decide) ⟨⟨rfl, rfl⟩, by decide, rfl⟩ (Nat.le_of_ble_eq_true rfl) (Nat.le_of_ble_eq_true rfl) (f_157 (e1 := e1) (a9 := (nx F e1 p0)) (B := H) (r8 := (nx F e1 p0)) (L8 := (ln F e1 (nx F e1 p0))) (W8 := (wv F (nx F e1 p0) (ln F e1 (nx F e1 p0)))) hI_1063 ((hid kn_1068)) ((h_1065)) (fun j => ((hF_1064 43 j (fun h => absurd h.1 (nn rfl))).trans (hF_1059 43 j (fun h => absurd h.1 (nn rfl)))).trans (hH j)) ((nx_tr hU (by first | (clear ha2 hq0 hq1 hq2 hq3 hq4 hq5 hq8 h_1 h_2 h_3 h_4 h_6 h_7 h_8 h_9 h_11 h_46 h_65 h_66 h_70 h_75 h_76 h_81 h_1031 h_1037 h_1038 h_1040 h_1041 h_1042 h_1043 h_1044 h_1045 h_1046 h_1047 h_1048 h_1049 h_1050 h_1051 h_1052 h_1053 h_1054 h_1056 hq6 hq7 h_12 h_21 h_37 h_1055 h_1067; omega) | omega) (by first | (clear ha2 hq0 hq1 hq2 hq3 hq4 hq8 h_1 h_2 h_3 h_4 h_5 h_6 h_7 h_8 h_9 h_10 h_11 h_46 h_65 h_66 h_70 h_75 h_76 h_81 h_1031 h_1037 h_1038 h_1040 h_1041 h_1042 h_1043 h_1044 h_1045 h_1046 h_1047 h_1048 h_1049 h_1050 h_1051 h_1052 h_1053 h_1054 h_1056 hq6 hq7 h_12 h_21 h_37 h_1055 h_1067; omega) | omega)).trans ((nx_z (by omega)))) ((ln_tr hU (by first | (clear ha2 hq0 hq1 hq2 hq3 hq4 hq5 hq8 h_1 h_2 h_3 h_4 h_6 h_7 h_8 h_9 h_11 h_46 h_65 h_66 h_70 h_75 h_76 h_81 h_1031 h_1037 h_1038 h_1040 h_1041 h_1042 h_1043 h_1044 h_1045 h_1046 h_1047 h_1048 h_1049 h_1050 h_1051 h_1052 h_1053 h_1054 h_1056 hq6 hq7 h_12 h_21 h_37 h_1055 h_1067; omega) | omega) (by first | (clear ha2 hq0 hq1 hq2 hq3 hq4 hq8 h_1 h_2 h_3 h_4 h_5 h_6 h_7 h_8 h_9 h_10 h_11 h_46 h_65 h_66 h_70 h_75 h_76 h_81 h_1031 h_1037 h_1038 h_1040 h_1041 h_1042 h_1043 h_1044 h_1045 h_1046 h_1047 h_1048 h_1049 h_1050 h_1051 h_1052 h_1053 h_1054 h_1056 hq6 hq7 h_12 h_21 h_37 h_1055 h_1067; omega) | omega)).trans (rfl)) ((wv_tr hU (by first | (clear ha2 hq0 hq1 hq2 hq3 hq4 hq5 hq8 h_1 h_2 h_3 h_4 h_6 h_7 h_8 h_9 h_11 h_46 h_65 h_66 h_70 h_75 h_76 h_81 h_1031 h_1037 h_1038 h_1040 h_1041 h_1042 h_1043 h_1044 h_1045 h_1046 h_1047 h_1048 h_1049 h_1050 h_1051 h_1052 h_1053 h_1054 h_1056 h_1069 h_1071 hq6 hq7 h_12 h_21 h_37 h_1055 h_1067; omega) | omega) (by first | (clear ha2 hq0 hq1 hq2 hq3 hq4 hq8 h_1 h_2 h_3 h_4 h_5 h_6 h_7 h_8 h_9 h_10 h_11 h_65 h_66 h_70 h_75 h_76 h_81 h_1031 h_1037 h_1038 h_1040 h_1041 h_1042 h_1043 h_1044 h_1045 h_1046 h_1047 h_1048 h_1049 h_1050 h_1051 h_1052 h_1053 h_1054 h_1056 h_1069 h_1071 hq6 hq7 h_12 h_21 h_37 h_1055 h_1067; omega) | omega) (fun j h1 h2 => ⟨(ln_in (e := e1) (a := (nx F e1 p0)) h1 h2).1, (ln_in (e := e1) (a := (nx F e1 p0)) h1 h2).2.1⟩)).trans (rfl)) (fun c_1072 hI_1073 hF_1074 hz_1075 => ?_))
            refine bk_inl ?_
            refine q_ldc_w_s rfl rfl rfl (by decide) ?_
            refine q_call rfl rfl rfl rfl (s_158_20 ?_)
            refine bk_inl ?_
            refine v_ic_ne_t (t := 94) rfl (by decide) ⟨by first | (clear ha2 hq0 hq1 hq2 hq3 hq4 hq5 hq8 h_1 h_2 h_3 h_4 h_5 h_6 h_7 h_8 h_9 h_10 h_11 h_46 h_65 h_66 h_70 h_75 h_76 h_81 h_1031 h_1037 h_1038 h_1040 h_1041 h_1042 h_1043 h_1044 h_1045 h_1046 h_1047 h_1048 h_1049 h_1050 h_1051 h_1052 h_1053 h_1054 h_1056 h_1069 hq6 hq7 h_12 h_21 h_37 h_1055 h_1067; omega) | omega, ⟨(Int.le_trans (by decide) h_1069.1), (Int.le_trans h_1069.2 (by decide))⟩, by decide, by decide⟩ ?_
            refine q_aload_n rfl rfl ?_
            have kn_1076 : Hid (c_1072 41 3 = e1) := (hF_1074 41 3 (fun h => absurd h.2 (ni rfl))).trans (hid kn_1068)
            refine v_cv rfl rfl rfl rfl (by decide) ⟨⟨rfl, rfl⟩, by decide, rfl⟩ (Nat.le_of_ble_eq_true rfl) (Nat.le_of_ble_eq_true rfl) (f_157 (e1 := e1) (a9 := (nx F e1 p0)) (B := H) (r8 := (nx F e1 p0)) (L8 := (ln F e1 (nx F e1 p0))) (W8 := (wv F (nx F e1 p0) (ln F e1 (nx F e1 p0)))) hI_1073 ((hid kn_1076)) ((hz_1075)) (fun j => ((hF_1074 43 j (fun h => absurd h.1 (nn rfl))).trans ((hF_1064 43 j (fun h => absurd h.1 (nn rfl))).trans (hF_1059 43 j (fun h => absurd h.1 (nn rfl))))).trans (hH j)) ((nx_tr hU (by first | (clear ha2 hq0 hq1 hq2 hq3 hq4 hq5 hq8 h_1 h_2 h_3 h_4 h_6 h_7 h_8 h_9 h_11 h_46 h_65 h_66 h_70 h_75 h_76 h_81 h_1031 h_1037 h_1038 h_1040 h_1041 h_1042 h_1043 h_1044 h_1045 h_1046 h_1047 h_1048 h_1049 h_1050 h_1051 h_1052 h_1053 h_1054 h_1056 h_1069 h_1071 hq6 hq7 h_12 h_21 h_37 h_1055 h_1067; omega) | omega) (by first | (clear ha2 hq0 hq1 hq2 hq3 hq4 hq8 h_1 h_2 h_3 h_4 h_5 h_6 h_7 h_8 h_9 h_10 h_11 h_46 h_65 h_66 h_70 h_75 h_76 h_81 h_1031 h_1037 h_1038 h_1040 h_1041 h_1042 h_1043 h_1044 h_1045 h_1046 h_1047 h_1048 h_1049 h_1050 h_1051 h_1052 h_1053 h_1054 h_1056 h_1069 h_1071 hq6 hq7 h_12 h_21 h_37 h_1055 h_1067; omega) | omega)).trans ((nx_z (by omega)))) ((ln_tr hU (by first | (clear ha2 hq0 hq1 hq2 hq3 hq4 hq5 hq8 h_1 h_2 h_3 h_4 h_6 h_7 h_8 h_9 h_11 h_46 h_65 h_66 h_70 h_75 h_76 h_81 h_1031 h_1037 h_1038 h_1040 h_1041 h_1042 h_1043 h_1044 h_1045 h_1046 h_1047 h_1048 h_1049 h_1050 h_1051 h_1052 h_1053 h_1054 h_1056 h_1069 h_1071 hq6 hq7 h_12 h_21 h_37 h_1055 h_1067; omega) | omega) (by first | (clear ha2 hq0 hq1 hq2 hq3 hq4 hq8 h_1 h_2 h_3 h_4 h_5 h_6 h_7 h_8 h_9 h_10 h_11 h_46 h_65 h_66 h_70 h_75 h_76 h_81 h_1031 h_1037 h_1038 h_1040 h_1041 h_1042 h_1043 h_1044 h_1045 h_1046 h_1047 h_1048 h_1049 h_1050 h_1051 h_1052 h_1053 h_1054 h_1056 h_1069 h_1071 hq6 hq7 h_12 h_21 h_37 h_1055 h_1067; omega) | omega)).trans (rfl)) ((wv_tr hU (by first | (clear ha2 hq0 hq1 hq2 hq3 hq4 hq5 hq8 h_1 h_2 h_3 h_4 h_6 h_7 h_8 h_9 h_11 h_46 h_65 h_66 h_70 h_75 h_76 h_81 h_1031 h_1037 h_1038 h_1040 h_1041 h_1042 h_1043 h_1044 h_1045 h_1046 h_1047 h_1048 h_1049 h_1050 h_1051 h_1052 h_1053 h_1054 h_1056 h_1069 h_1071 hq6 hq7 h_12 h_21 h_37 h_1055 h_1067; omega) | omega) (by first | (clear ha2 hq0 hq1 hq2 hq3 hq4 hq8 h_1 h_2 h_3 h_4 h_5 h_6 h_7 h_8 h_9 h_10 h_11 h_65 h_66 h_70 h_75 h_76 h_81 h_1031 h_1037 h_1038 h_1040 h_1041 h_1042 h_1043 h_1044 h_1045 h_1046 h_1047 h_1048 h_1049 h_1050 h_1051 h_1052 h_1053 h_1054 h_1056 h_1069 h_1071 hq6 hq7 h_12 h_21 h_37 h_1055 h_1067; omega) | omega) (fun j h1 h2 => ⟨(ln_in (e := e1) (a := (nx F e1 p0)) h1 h2).1, (ln_in (e := e1) (a := (nx F e1 p0)) h1 h2).2.1⟩)).trans (rfl)) (fun c_1077 hI_1078 hF_1079 hz_1080 => ?_))
            refine bk_inl ?_
            refine q_ldc_w_s rfl rfl rfl (by decide) ?_
            refine q_call rfl rfl rfl rfl (s_158_21 ?_)
            refine bk_inl ?_
            refine v_ic_ne_f (t := 117) rfl (by decide) (by first | (clear ha2 hq0 hq1 hq2 hq3 hq4 hq5 hq8 h_1 h_2 h_3 h_4 h_5 h_6 h_7 h_8 h_9 h_10 h_11 h_46 h_65 h_66 h_70 h_75 h_76 h_81 h_1031 h_1037 h_1038 h_1040 h_1041 h_1042 h_1043 h_1044 h_1045 h_1046 h_1047 h_1048 h_1049 h_1050 h_1051 h_1052 h_1053 h_1054 h_1056 h_1069 hq6 hq7 h_12 h_21 h_37 h_1055 h_1067; omega) | omega) ?_
            refine q_aload_n rfl rfl ?_
            refine q_iconst rfl ?_
            refine v_bip rfl (by decide) ?_
            refine v_cv rfl rfl rfl rfl (by decide) ⟨⟨rfl, rfl⟩, by decide, rfl⟩ (Nat.le_of_ble_eq_true rfl) (Nat.le_of_ble_eq_true rfl) ?_
            refine q_aload_n rfl rfl ?_
            refine q_iload_n rfl rfl ?_
            refine v_cv rfl rfl rfl rfl (by decide) ⟨⟨rfl, rfl⟩, by decide, rfl⟩ (Nat.le_of_ble_eq_true rfl) (Nat.le_of_ble_eq_true rfl) ?_
            refine q_aload_n rfl rfl ?_
            refine v_cv rfl rfl rfl rfl (by decide) ⟨⟨rfl, rfl⟩, by decide, rfl⟩ (Nat.le_of_ble_eq_true rfl) (Nat.le_of_ble_eq_true rfl) ?_
            refine q_aload_n rfl rfl ?_
            have kn_1081 : Hid (c_1057 41 5 = (-1)) := (hF_1059 41 5 (fun h => absurd h.2 (ni rfl))).trans hro_hRt.2.1
            have kn_1082 : Hid (c_1062 41 5 = (-1)) := (hF_1064 41 5 (fun h => absurd h.2 (ni rfl))).trans (hid kn_1081)
            have kn_1083 : Hid (c_1072 41 5 = (-1)) := (hF_1074 41 5 (fun h => absurd h.2 (ni rfl))).trans (hid kn_1082)
            have kn_1084 : Hid (c_1077 41 5 = (-1)) := (hF_1079 41 5 (fun h => absurd h.2 (ni rfl))).trans (hid kn_1083)
            refine v_gi (z := 5) (v := (-1)) rfl rfl rfl (by decide) rfl rfl (hid kn_1084) ?_
            refine q_iconst rfl ?_
            refine v_ic_ne_f (t := 12) rfl (by decide) (by decide) ?_
            refine q_iconst rfl ?_
            refine q_goto (t := 13) rfl (by decide) ?_
            refine v_zret rfl rfl (by decide) ?_
            refine bk_inl ?_
            refine v_if_eq_f (t := 25) rfl (by decide) (by decide) ?_
            refine q_aload_n rfl rfl ?_
            have kn_1085 : Hid (c_1057 41 7 = o0) := (hF_1059 41 7 (fun h => absurd h.2 (ni rfl))).trans (hr_o0)
            have kn_1086 : Hid (c_1062 41 7 = o0) := (hF_1064 41 7 (fun h => absurd h.2 (ni rfl))).trans (hid kn_1085)
            have kn_1087 : Hid (c_1072 41 7 = o0) := (hF_1074 41 7 (fun h => absurd h.2 (ni rfl))).trans (hid kn_1086)
            have kn_1088 : Hid (c_1077 41 7 = o0) := (hF_1079 41 7 (fun h => absurd h.2 (ni rfl))).trans (hid kn_1087)
            refine v_gi (z := 7) (v := o0) rfl rfl rfl (by decide) rfl rfl (hid kn_1088) ?_
            refine v_bip rfl (by decide) ?_
            refine v_ic_ne_t (t := 25) rfl (by decide) ⟨by first | (clear ha2 hq0 hq1 hq3 hq4 hq5 hq8 h_1 h_2 h_3 h_4 h_5 h_6 h_7 h_8 h_9 h_10 h_11 h_46 h_65 h_66 h_75 h_76 h_81 h_1031 h_1037 h_1038 h_1040 h_1041 h_1042 h_1043 h_1044 h_1045 h_1046 h_1047 h_1048 h_1049 h_1050 h_1051 h_1052 h_1053 h_1054 h_1056 h_1069 h_1071 hq6 hq7 h_12 h_21 h_37 h_1055 h_1067; omega) | omega, ⟨(Int.le_trans (by decide) (rg_eq hr_o0 h_8).1), (Int.le_trans (rg_eq hr_o0 h_8).2 (by decide))⟩, by decide, by decide⟩ ?_
            refine q_aload_n rfl rfl ?_
            refine v_cv rfl rfl rfl rfl (by decide) ⟨⟨rfl, rfl⟩, by decide, rfl⟩ (Nat.le_of_ble_eq_true rfl) (Nat.le_of_ble_eq_true rfl) ?_
            refine q_aload_n rfl rfl ?_
            refine v_gi (z := 5) (v := (-1)) rfl rfl rfl (by decide) rfl rfl (hid kn_1084) ?_
            refine q_iconst rfl ?_
            refine v_ic_ne_f (t := 12) rfl (by decide) (by decide) ?_
            refine q_iconst rfl ?_
            refine q_goto (t := 13) rfl (by decide) ?_
            refine v_zret rfl rfl (by decide) ?_
            refine bk_inl ?_
            refine v_if_eq_f (t := 42) rfl (by decide) (by decide) ?_
            refine q_aload_n rfl rfl ?_
            refine q_dup rfl rfl ?_
            refine v_gi (z := 4) (v := (nx F e1 p0)) rfl rfl rfl (by decide) rfl rfl (hz_1080) ?_
            refine q_iload_n rfl rfl ?_
            refine v_iadd (v := (nx F e1 p0) + 4) rfl rfl ?_
            refine v_pi (z := 4) rfl rfl rfl (by decide) rfl rfl rfl (by decide) ?_
            refine q_aload_n rfl rfl ?_
            refine q_dup rfl rfl ?_
            refine v_gi (z := 7) (v := o0) rfl rfl rfl (by decide) rfl rfl ((up_n (by decide)).trans (hid kn_1088)) ?_
            refine q_iconst rfl ?_
            refine v_iadd (v := o0 + 1) rfl rfl ?_
            refine v_pi (z := 7) rfl rfl rfl (by decide) rfl rfl rfl (by decide) ?_
            refine q_vret rfl rfl ?_
            refine bk_inl ?_
            refine q_aload_n rfl rfl ?_
            refine v_bip rfl (by decide) ?_
            have hI_1089 := iw_41_4 (v := (nx F e1 p0) + 4) hI_1078 ⟨by first | exact rgp_l (rg_be h_10 ((rg_eq hg_p0 h_5).1) ((rg_eq hg_e1 h_1).2)).1 (by decide) | omega, by first | exact rgp_h (rg_be h_10 ((rg_eq hg_p0 h_5).1) ((rg_eq hg_e1 h_1).2)).2 (by decide) | omega⟩
            have hI_1090 := iw_41_7 (v := o0 + 1) hI_1089 ⟨by first | exact rgp_l (rg_eq hr_o0 h_8).1 (by decide) | omega, by first | (clear ha2 hq0 hq1 hq3 hq4 hq5 hq8 h_1 h_2 h_3 h_4 h_5 h_6 h_7 h_8 h_9 h_10 h_11 h_46 h_65 h_66 h_75 h_76 h_81 h_1031 h_1037 h_1038 h_1040 h_1041 h_1042 h_1043 h_1044 h_1045 h_1046 h_1047 h_1048 h_1049 h_1050 h_1051 h_1052 h_1053 h_1054 h_1056 h_1069 h_1071 hq6 hq7 h_12 h_21 h_37 h_1055 h_1067; omega) | omega⟩
            have kn_1091 : Hid (c_62 1 1 = e1) := (hF_64 1 1 (fun q => q.elim (fun h => absurd h.2 (ni rfl)) (fun q => q.elim (fun h => absurd h.2 (ni rfl)) (fun h => absurd h.2 (ni rfl))))).trans (hid kn_39)
            have kn_1092 : Hid (c_1077 41 3 = e1) := (hF_1079 41 3 (fun h => absurd h.2 (ni rfl))).trans (hid kn_1076)
            have h_1093 : c_62 1 4 = 0 := (hz_68)
            have h_1094 : c_62 1 2 = (ln F e1 (nx F e1 p0)) := (hz_67)
            have h_1095 : c_62 1 5 = g0 := (hz_69)
            have h_1096 : (up (up c_1077 41 4 ((nx F e1 p0) + 4)) 41 7 (o0 + 1)) 41 5 = (-1) := ((up_n (by decide)).trans ((up_n (by decide)).trans (hid kn_1084)))
            have h_1097 : (up (up c_1077 41 4 ((nx F e1 p0) + 4)) 41 7 (o0 + 1)) 41 4 = (nx F e1 p0) + 4 := ((up_n (by decide)).trans (up_e rfl))
            have kn_1098 : Hid (c_1057 41 6 = c 41 6) := hF_1059 41 6 (fun h => absurd h.2 (ni rfl))
            have kn_1099 : Hid (c_1062 41 6 = c 41 6) := (hF_1064 41 6 (fun h => absurd h.2 (ni rfl))).trans (hid kn_1098)
            have kn_1100 : Hid (c_1072 41 6 = c 41 6) := (hF_1074 41 6 (fun h => absurd h.2 (ni rfl))).trans (hid kn_1099)
            have kn_1101 : Hid (c_1077 41 6 = c 41 6) := (hF_1079 41 6 (fun h => absurd h.2 (ni rfl))).trans (hid kn_1100)
            have h_1102 : (up (up c_1077 41 4 ((nx F e1 p0) + 4)) 41 7 (o0 + 1)) 41 6 = c 41 6 := ((up_n (by decide)).trans ((up_n (by decide)).trans (hid kn_1101)))
            refine v_cv rfl rfl rfl rfl (by decide) ⟨⟨rfl, rfl⟩, by decide, rfl⟩ (Nat.le_of_ble_eq_true rfl) (Nat.le_of_ble_eq_true rfl) (L_11_3 (m := c_62) (e1 := e1) (a9 := (ln F e1 (nx F e1 p0))) (f0 := 0) (F := F) (H := H) hI_1090 hI_63 hI_72 ((hid kn_1091)) (((up_n (by decide)).trans ((up_n (by decide)).trans (hid kn_1092)))) ((hz_67)) ((hz_68)) (fun j => ((hF_64 2 j (fun q => q.elim (fun h => absurd h.1 (nn rfl)) (fun q => q.elim (fun h => absurd h.1 (nn rfl)) (fun h => absurd h.1 (nn rfl))))).trans ((hF_36 2 j (fun h => absurd h.1 (nn rfl))).trans ((hF_26 2 j (fun h => absurd h.1 (nn rfl))).trans (hF_20 2 j (fun h => absurd h.1 (nn rfl)))))).trans (hF j)) (fun j => ((up_c (nn rfl)).trans ((up_c (nn rfl)).trans ((hF_1079 43 j (fun h => absurd h.1 (nn rfl))).trans ((hF_1074 43 j (fun h => absurd h.1 (nn rfl))).trans ((hF_1064 43 j (fun h => absurd h.1 (nn rfl))).trans (hF_1059 43 j (fun h => absurd h.1 (nn rfl)))))))).trans (hH j)) hU (rt_i1 ⟨by first | (clear ha2 hq0 hq1 hq2 hq3 hq4 hq5 hq8 h_1 h_2 h_3 h_4 h_5 h_6 h_7 h_8 h_9 h_10 h_11 h_46 h_65 h_66 h_70 h_75 h_76 h_81 h_1031 h_1037 h_1038 h_1040 h_1041 h_1042 h_1043 h_1044 h_1045 h_1046 h_1047 h_1048 h_1049 h_1050 h_1051 h_1052 h_1053 h_1054 h_1056 h_1069 h_1071 hq6 hq7 h_12 h_21 h_37 h_1055 h_1067; omega) | omega, by first | (clear ha2 hq0 hq1 hq2 hq3 hq4 hq5 hq8 h_1 h_2 h_3 h_4 h_5 h_6 h_7 h_8 h_9 h_10 h_11 h_46 h_65 h_66 h_70 h_75 h_76 h_81 h_1031 h_1037 h_1038 h_1040 h_1041 h_1042 h_1043 h_1044 h_1045 h_1046 h_1047 h_1048 h_1049 h_1050 h_1051 h_1052 h_1053 h_1054 h_1056 h_1069 h_1071 hq6 hq7 h_12 h_21 h_37 h_1055 h_1067; omega) | omega, by first | (clear ha2 hq0 hq1 hq2 hq3 hq4 hq5 hq8 h_1 h_2 h_3 h_4 h_5 h_6 h_7 h_8 h_9 h_10 h_11 h_46 h_65 h_66 h_70 h_75 h_76 h_81 h_1031 h_1037 h_1038 h_1040 h_1041 h_1042 h_1043 h_1044 h_1045 h_1046 h_1047 h_1048 h_1049 h_1050 h_1051 h_1052 h_1053 h_1054 h_1056 h_1069 hq6 hq7 h_12 h_21 h_37 h_1055 h_1067; omega) | omega, by first | (clear ha2 hq0 hq2 hq3 hq4 hq5 hq8 h_1 h_2 h_3 h_4 h_5 h_6 h_7 h_8 h_9 h_10 h_11 h_46 h_65 h_66 h_70 h_75 h_76 h_81 h_1031 h_1037 h_1038 h_1040 h_1041 h_1042 h_1043 h_1044 h_1045 h_1046 h_1047 h_1048 h_1049 h_1050 h_1051 h_1052 h_1053 h_1054 h_1056 h_1069 h_1071 hq6 hq7 h_12 h_21 h_37 h_1055 h_1067; omega) | omega⟩) hG_74 (fun c_1103 hI_1104 hF_1105 hR_1107 h_1108 h_1109 => ?_))
            refine bk_inl ?_
            have h_1110 := ir_1_2 hI_72
            refine q_aload_n rfl rfl ?_
            have h_1111 := ir_41_5 hI_1104
            have h_1112 := ir_1_5 hI_72
            have h_1113 := ir_41_4 hI_1104
            have h_1114 := ir_41_6 hI_1104
            have h_1115 := rt_ok hR_1107 (by omega)
            have hro_hR_1107 := rt_ok hR_1107 (by omega)
            have kn_1116 : Hid (c_71 1 1 = e1) := (hF_73 1 1 (fun q => q.elim (fun h => absurd h.2 (ni rfl)) (fun q => q.elim (fun h => absurd h.2 (ni rfl)) (fun h => absurd h.2 (ni rfl))))).trans (hid kn_1091)
            have kn_1117 : Hid (c_1103 41 3 = e1) := (hF_1105 41 3 (fun q => q.elim (fun h => absurd h.2 (ni rfl)) (fun q => q.elim (fun h => absurd h.2 (ni rfl)) (fun h => absurd h.2 (ni rfl))))).trans ((up_n (by decide)).trans ((up_n (by decide)).trans (hid kn_1092)))
            have kn_1118 : Hid (c_18 (A + 7) 5 = n0) := (hF_20 (A + 7) 5 (fun h => absurd h.1 (np hA rfl rfl))).trans (hg_n0)
            have kn_1119 : Hid (c_24 (A + 7) 5 = n0) := (hF_26 (A + 7) 5 (fun h => absurd h.1 (np hA rfl rfl))).trans (hid kn_1118)
            have kn_1120 : Hid (c_34 (A + 7) 5 = n0) := (hF_36 (A + 7) 5 (fun h => absurd h.1 (np hA rfl rfl))).trans (hid kn_1119)
            have kn_1121 : Hid (c_62 (A + 7) 5 = n0) := (hF_64 (A + 7) 5 (fun q => q.elim (fun h => absurd h.1 (np hA rfl rfl)) (fun q => q.elim (fun h => absurd h.1 (np hA rfl rfl)) (fun h => absurd h.1 (np hA rfl rfl))))).trans (hid kn_1120)
            have kn_1122 : Hid (c_71 (A + 7) 5 = n0) := (hF_73 (A + 7) 5 (fun q => q.elim (fun h => absurd h.1 (np hA rfl rfl)) (fun q => q.elim (fun h => absurd h.1 (np hA rfl rfl)) (fun h => absurd h.1 (np hA rfl rfl))))).trans (hid kn_1121)
            have kn_1123 : Hid (c_1057 41 29 = n0) := (hF_1059 41 29 (fun h => absurd h.2 (ni rfl))).trans (hr_n0)
            have kn_1124 : Hid (c_1062 41 29 = n0) := (hF_1064 41 29 (fun h => absurd h.2 (ni rfl))).trans (hid kn_1123)
            have kn_1125 : Hid (c_1072 41 29 = n0) := (hF_1074 41 29 (fun h => absurd h.2 (ni rfl))).trans (hid kn_1124)
            have kn_1126 : Hid (c_1077 41 29 = n0) := (hF_1079 41 29 (fun h => absurd h.2 (ni rfl))).trans (hid kn_1125)
            have kn_1127 : Hid (c_1103 41 29 = n0) := (hF_1105 41 29 (fun q => q.elim (fun h => absurd h.2 (ni rfl)) (fun q => q.elim (fun h => absurd h.2 (ni rfl)) (fun h => absurd h.2 (ni rfl))))).trans ((up_n (by decide)).trans ((up_n (by decide)).trans (hid kn_1126)))
            have kn_1128 : Hid (c_1103 41 7 = o0 + 1) := (hF_1105 41 7 (fun q => q.elim (fun h => absurd h.2 (ni rfl)) (fun q => q.elim (fun h => absurd h.2 (ni rfl)) (fun h => absurd h.2 (ni rfl))))).trans (up_e rfl)
            have hA_1129 : Ce n0 (c_71 (A + 9)) (c_1103 50) (c_1103 51) := ce_fr hr0 (fun j => (hF_73 (A + 9) j (fun q => q.elim (fun h => absurd h.1 (np hA rfl rfl)) (fun q => q.elim (fun h => absurd h.1 (np hA rfl rfl)) (fun h => absurd h.1 (np hA rfl rfl))))).trans ((hF_64 (A + 9) j (fun q => q.elim (fun h => absurd h.1 (np hA rfl rfl)) (fun q => q.elim (fun h => absurd h.1 (np hA rfl rfl)) (fun h => absurd h.1 (np hA rfl rfl))))).trans ((hF_36 (A + 9) j (fun h => absurd h.1 (np hA rfl rfl))).trans ((hF_26 (A + 9) j (fun h => absurd h.1 (np hA rfl rfl))).trans (hF_20 (A + 9) j (fun h => absurd h.1 (np hA rfl rfl))))))) (fun j => (hF_1105 50 j (fun q => q.elim (fun h => absurd h.1 (nn rfl)) (fun q => q.elim (fun h => absurd h.1 (nn rfl)) (fun h => absurd h.1 (nn rfl))))).trans ((up_c (nn rfl)).trans ((up_c (nn rfl)).trans ((hF_1079 50 j (fun h => absurd h.1 (nn rfl))).trans ((hF_1074 50 j (fun h => absurd h.1 (nn rfl))).trans ((hF_1064 50 j (fun h => absurd h.1 (nn rfl))).trans (hF_1059 50 j (fun h => absurd h.1 (nn rfl))))))))) (fun j => (hF_1105 51 j (fun q => q.elim (fun h => absurd h.1 (nn rfl)) (fun q => q.elim (fun h => absurd h.1 (nn rfl)) (fun h => absurd h.1 (nn rfl))))).trans ((up_c (nn rfl)).trans ((up_c (nn rfl)).trans ((hF_1079 51 j (fun h => absurd h.1 (nn rfl))).trans ((hF_1074 51 j (fun h => absurd h.1 (nn rfl))).trans ((hF_1064 51 j (fun h => absurd h.1 (nn rfl))).trans (hF_1059 51 j (fun h => absurd h.1 (nn rfl)))))))))
            refine v_cv rfl rfl rfl rfl (by decide) ⟨⟨rfl, rfl⟩, by decide, rfl⟩ (Nat.le_of_ble_eq_true rfl) (Nat.le_of_ble_eq_true rfl) (H13 (m := c_71) (e1 := e1) (f0 := c_71 1 4) (g0 := c_71 1 5) (p0 := c_71 1 2) (n0 := n0) (o0 := o0 + 1) (by omega) (by omega) hI_1104 hI_72 hI_78 (show 0 ≤ a2 + 1 ∧ a2 + 1 ≤ 6 from ⟨by first | exact rgp_l ha2.1 (by decide) | omega, by first | (clear ha2 hq0 hq1 hq2 hq3 hq4 hq5 hq8 h_1 h_2 h_3 h_4 h_5 h_6 h_7 h_8 h_9 h_10 h_11 h_46 h_65 h_66 h_75 h_76 h_81 h_1031 h_1037 h_1038 h_1040 h_1041 h_1042 h_1043 h_1044 h_1045 h_1046 h_1047 h_1048 h_1049 h_1050 h_1051 h_1052 h_1053 h_1054 h_1056 h_1069 h_1071 h_1110 h_1111 h_1112 h_1113 h_1114 h_1115 hq6 hq7 h_12 h_21 h_37 h_1055 h_1067 h_1108 h_1109; omega) | omega⟩) (by first | (clear ha2 hq0 hq1 hq2 hq3 hq4 hq5 hq8 h_1 h_2 h_3 h_4 h_5 h_6 h_7 h_8 h_9 h_10 h_11 h_46 h_65 h_66 h_70 h_81 h_1031 h_1037 h_1038 h_1040 h_1041 h_1042 h_1043 h_1044 h_1045 h_1046 h_1047 h_1048 h_1049 h_1050 h_1051 h_1052 h_1053 h_1054 h_1056 h_1069 h_1071 h_1110 h_1111 h_1112 h_1113 h_1114 h_1115 hq6 hq7 h_12 h_21 h_37 h_1055 h_1067 h_1108 h_1109; omega) | omega) (by first | (clear ha2 hq0 hq1 hq2 hq3 hq4 hq5 hq8 h_1 h_2 h_3 h_4 h_5 h_6 h_7 h_8 h_9 h_10 h_11 h_46 h_65 h_66 h_70 h_75 h_76 h_81 h_1031 h_1037 h_1038 h_1040 h_1041 h_1042 h_1043 h_1044 h_1045 h_1046 h_1047 h_1048 h_1049 h_1050 h_1051 h_1052 h_1053 h_1054 h_1056 h_1069 h_1071 h_1110 h_1111 h_1113 h_1114 hq6 hq7 h_12 h_21 h_37 h_1055 h_1067 h_1108 h_1109; omega) | omega) (by first | (clear ha2 hq0 hq1 hq3 hq4 hq5 hq8 h_1 h_2 h_3 h_4 h_5 h_6 h_7 h_8 h_9 h_10 h_11 h_46 h_65 h_66 h_70 h_75 h_76 h_81 h_1031 h_1037 h_1038 h_1040 h_1041 h_1042 h_1043 h_1044 h_1045 h_1046 h_1047 h_1048 h_1049 h_1050 h_1051 h_1052 h_1053 h_1054 h_1056 h_1069 h_1071 h_1110 h_1111 h_1112 h_1113 h_1114 h_1115 hq6 hq7 h_12 h_21 h_37 h_1055 h_1067 h_1108 h_1109; omega) | omega) (by first | (clear ha2 hq0 hq1 hq2 hq8 h_3 h_4 h_8 h_9 h_11 h_65 h_66 h_70 h_81 h_1031 h_1037 h_1038 h_1040 h_1041 h_1042 h_1043 h_1044 h_1045 h_1046 h_1047 h_1048 h_1049 h_1050 h_1051 h_1052 h_1053 h_1054 h_1056 h_1069 h_1114 h_1067; omega) | omega) (by first | (clear ha2 hq0 hq1 hq2 hq3 hq8 h_3 h_4 h_5 h_6 h_7 h_8 h_9 h_11 h_65 h_66 h_70 h_75 h_76 h_81 h_1031 h_1037 h_1038 h_1040 h_1041 h_1042 h_1043 h_1044 h_1045 h_1046 h_1047 h_1048 h_1049 h_1050 h_1051 h_1052 h_1053 h_1054 h_1056 h_1069 h_1071 h_1111 h_1112 h_1113 h_1114 h_1067 h_1109; omega) | omega) (by first | (clear ha2 hq0 hq1 hq2 hq3 hq4 hq8 h_1 h_2 h_3 h_4 h_5 h_6 h_7 h_8 h_9 h_10 h_11 h_46 h_65 h_66 h_70 h_75 h_76 h_81 h_1031 h_1037 h_1038 h_1040 h_1041 h_1042 h_1043 h_1044 h_1045 h_1046 h_1047 h_1048 h_1049 h_1050 h_1051 h_1052 h_1053 h_1054 h_1056 h_1069 h_1071 h_1110 h_1111 h_1112 h_1113 h_1114 h_1115 hq6 hq7 h_12 h_21 h_37 h_1055 h_1067 h_1108 h_1109; omega) | omega) ((hid kn_1116)) ((hid kn_1117)) (rfl) (rfl) (rfl) ((hid kn_1122)) ((hid kn_1127)) ((hid kn_1128)) (fun j => ((hF_73 2 j (fun q => q.elim (fun h => absurd h.1 (nn rfl)) (fun q => q.elim (fun h => absurd h.1 (nn rfl)) (fun h => absurd h.1 (nn rfl))))).trans ((hF_64 2 j (fun q => q.elim (fun h => absurd h.1 (nn rfl)) (fun q => q.elim (fun h => absurd h.1 (nn rfl)) (fun h => absurd h.1 (nn rfl))))).trans ((hF_36 2 j (fun h => absurd h.1 (nn rfl))).trans ((hF_26 2 j (fun h => absurd h.1 (nn rfl))).trans (hF_20 2 j (fun h => absurd h.1 (nn rfl))))))).trans (hF j)) (fun j => ((hF_1105 43 j (fun q => q.elim (fun h => absurd h.1 (nn rfl)) (fun q => q.elim (fun h => absurd h.1 (nn rfl)) (fun h => absurd h.1 (nn rfl))))).trans ((up_c (nn rfl)).trans ((up_c (nn rfl)).trans ((hF_1079 43 j (fun h => absurd h.1 (nn rfl))).trans ((hF_1074 43 j (fun h => absurd h.1 (nn rfl))).trans ((hF_1064 43 j (fun h => absurd h.1 (nn rfl))).trans (hF_1059 43 j (fun h => absurd h.1 (nn rfl))))))))).trans (hH j)) hU hR_1107 (ce_le hA_1129 (by omega)) hG_80 (fun c_1130 hI_1131 hF_1132 hR_1134 h_1135 h_1136 hA_1137 => ?_))
            refine bk_inl ?_
            have h_1138 := ir_41_29 hI_1131
            have h_1139 := ir_p7_5 hI_78 hA
            have h_1140 := ir_1_2 hI_78
            have h_1141 := ir_41_7 hI_1131
            refine q_aload_n rfl rfl ?_
            refine v_bip rfl (by decide) ?_
            have h_1142 := ir_41_5 hI_1131
            have h_1143 := ir_41_4 hI_1131
            have h_1144 := ir_41_6 hI_1131
            have h_1145 := rt_bad hR_1134 (by omega)
            have hrb_hR_1134 := rt_bad hR_1134 (by omega)
            refine v_cv rfl rfl rfl rfl (by decide) ⟨⟨rfl, rfl⟩, by decide, rfl⟩ (Nat.le_of_ble_eq_true rfl) (Nat.le_of_ble_eq_true rfl) ?_
            refine q_aload_n rfl rfl ?_
            refine v_cv rfl rfl rfl rfl (by decide) ⟨⟨rfl, rfl⟩, by decide, rfl⟩ (Nat.le_of_ble_eq_true rfl) (Nat.le_of_ble_eq_true rfl) ?_
            refine q_aload_n rfl rfl ?_
            refine v_gi (z := 5) (v := c_77 1 5) rfl rfl rfl (by decide) rfl rfl hrb_hR_1134.2.1 ?_
            refine q_iconst rfl ?_
            refine v_ic_ne_t (t := 12) rfl (by decide) ⟨by first | (clear ha2 hq0 hq1 hq2 hq3 hq4 hq5 hq8 h_1 h_2 h_3 h_4 h_5 h_6 h_7 h_8 h_9 h_10 h_11 h_46 h_65 h_66 h_70 h_75 h_76 h_81 h_1031 h_1037 h_1038 h_1040 h_1041 h_1042 h_1043 h_1044 h_1045 h_1046 h_1047 h_1048 h_1049 h_1050 h_1051 h_1052 h_1053 h_1054 h_1056 h_1069 h_1071 h_1110 h_1111 h_1112 h_1113 h_1114 h_1115 h_1138 h_1139 h_1140 h_1141 h_1136 h_1142 h_1143 h_1144 hq6 hq7 h_12 h_21 h_37 h_1055 h_1067 h_1108 h_1109 h_1135; omega) | omega, ⟨(Int.le_trans (by decide) h_1031.1), (Int.le_trans h_1031.2 (by decide))⟩, by decide, by decide⟩ ?_
            refine q_iconst rfl ?_
            refine v_zret rfl rfl (by decide) ?_
            refine bk_inl ?_
            refine v_if_eq_t (t := 24) rfl (by decide) (by decide) ?_
            refine q_aload_n rfl rfl ?_
            refine v_cv rfl rfl rfl rfl (by decide) ⟨⟨rfl, rfl⟩, by decide, rfl⟩ (Nat.le_of_ble_eq_true rfl) (Nat.le_of_ble_eq_true rfl) ?_
            refine q_aload_n rfl rfl ?_
            refine v_gi (z := 5) (v := c_77 1 5) rfl rfl rfl (by decide) rfl rfl hrb_hR_1134.2.1 ?_
            refine q_iconst rfl ?_
            refine v_ic_ne_t (t := 12) rfl (by decide) ⟨by first | (clear ha2 hq0 hq1 hq2 hq3 hq4 hq5 hq8 h_1 h_2 h_3 h_4 h_5 h_6 h_7 h_8 h_9 h_10 h_11 h_46 h_65 h_66 h_70 h_75 h_76 h_81 h_1031 h_1037 h_1038 h_1040 h_1041 h_1042 h_1043 h_1044 h_1045 h_1046 h_1047 h_1048 h_1049 h_1050 h_1051 h_1052 h_1053 h_1054 h_1056 h_1069 h_1071 h_1110 h_1111 h_1112 h_1113 h_1114 h_1115 h_1138 h_1139 h_1140 h_1141 h_1136 h_1142 h_1143 h_1144 hq6 hq7 h_12 h_21 h_37 h_1055 h_1067 h_1108 h_1109 h_1135; omega) | omega, ⟨(Int.le_trans (by decide) h_1031.1), (Int.le_trans h_1031.2 (by decide))⟩, by decide, by decide⟩ ?_
            refine q_iconst rfl ?_
            refine v_zret rfl rfl (by decide) ?_
            refine bk_inl ?_
            refine v_if_eq_t (t := 41) rfl (by decide) (by decide) ?_
            refine q_vret rfl rfl ?_
            refine bk_inl ?_
            refine q_aload_n rfl rfl ?_
            have h_1146 : ¬ c_1130 41 5 = -1 := by rw [show c_1130 41 5 = c_77 1 5 from hrb_hR_1134.2.1]; omega
            refine v_cv rfl rfl rfl rfl (by decide) ⟨⟨rfl, rfl⟩, by decide, rfl⟩ (Nat.le_of_ble_eq_true rfl) (Nat.le_of_ble_eq_true rfl) (n_174 hI_1131 (by omega) ?_)
            refine bk_inl ?_
            refine q_aload_n rfl rfl ?_
            refine v_bip rfl (by decide) ?_
            refine v_cv rfl rfl rfl rfl (by decide) ⟨⟨rfl, rfl⟩, by decide, rfl⟩ (Nat.le_of_ble_eq_true rfl) (Nat.le_of_ble_eq_true rfl) ?_
            refine q_aload_n rfl rfl ?_
            refine v_cv rfl rfl rfl rfl (by decide) ⟨⟨rfl, rfl⟩, by decide, rfl⟩ (Nat.le_of_ble_eq_true rfl) (Nat.le_of_ble_eq_true rfl) ?_
            refine q_aload_n rfl rfl ?_
            refine v_gi (z := 5) (v := c_77 1 5) rfl rfl rfl (by decide) rfl rfl hrb_hR_1134.2.1 ?_
            refine q_iconst rfl ?_
            refine v_ic_ne_t (t := 12) rfl (by decide) ⟨by first | (clear ha2 hq0 hq1 hq2 hq3 hq4 hq5 hq8 h_1 h_2 h_3 h_4 h_5 h_6 h_7 h_8 h_9 h_10 h_11 h_46 h_65 h_66 h_70 h_75 h_76 h_81 h_1031 h_1037 h_1038 h_1040 h_1041 h_1042 h_1043 h_1044 h_1045 h_1046 h_1047 h_1048 h_1049 h_1050 h_1051 h_1052 h_1053 h_1054 h_1056 h_1069 h_1071 h_1110 h_1111 h_1112 h_1113 h_1114 h_1115 h_1138 h_1139 h_1140 h_1141 h_1136 h_1142 h_1143 h_1144 hq6 hq7 h_12 h_21 h_37 h_1055 h_1067 h_1108 h_1109 h_1135; omega) | omega, ⟨(Int.le_trans (by decide) h_1031.1), (Int.le_trans h_1031.2 (by decide))⟩, by decide, by decide⟩ ?_
            refine q_iconst rfl ?_
            refine v_zret rfl rfl (by decide) ?_
            refine bk_inl ?_
            refine v_if_eq_t (t := 24) rfl (by decide) (by decide) ?_
            refine q_aload_n rfl rfl ?_
            refine v_cv rfl rfl rfl rfl (by decide) ⟨⟨rfl, rfl⟩, by decide, rfl⟩ (Nat.le_of_ble_eq_true rfl) (Nat.le_of_ble_eq_true rfl) ?_
            refine q_aload_n rfl rfl ?_
            refine v_gi (z := 5) (v := c_77 1 5) rfl rfl rfl (by decide) rfl rfl hrb_hR_1134.2.1 ?_
            refine q_iconst rfl ?_
            refine v_ic_ne_t (t := 12) rfl (by decide) ⟨by first | (clear ha2 hq0 hq1 hq2 hq3 hq4 hq5 hq8 h_1 h_2 h_3 h_4 h_5 h_6 h_7 h_8 h_9 h_10 h_11 h_46 h_65 h_66 h_70 h_75 h_76 h_81 h_1031 h_1037 h_1038 h_1040 h_1041 h_1042 h_1043 h_1044 h_1045 h_1046 h_1047 h_1048 h_1049 h_1050 h_1051 h_1052 h_1053 h_1054 h_1056 h_1069 h_1071 h_1110 h_1111 h_1112 h_1113 h_1114 h_1115 h_1138 h_1139 h_1140 h_1141 h_1136 h_1142 h_1143 h_1144 hq6 hq7 h_12 h_21 h_37 h_1055 h_1067 h_1108 h_1109 h_1135; omega) | omega, ⟨(Int.le_trans (by decide) h_1031.1), (Int.le_trans h_1031.2 (by decide))⟩, by decide, by decide⟩ ?_
            refine q_iconst rfl ?_
            refine v_zret rfl rfl (by decide) ?_
            refine bk_inl ?_
            refine v_if_eq_t (t := 41) rfl (by decide) (by decide) ?_
            refine q_vret rfl rfl ?_
            refine bk_inl ?_
            refine q_aload_n rfl rfl ?_
            refine q_dup rfl rfl ?_
            refine v_gi (z := 7) (v := c_1130 41 7) rfl rfl rfl (by decide) rfl rfl rfl ?_
            refine q_iconst rfl ?_
            refine v_isub (v := c_1130 41 7 - 1) rfl rfl ?_
            refine v_pi (z := 7) rfl rfl rfl (by decide) rfl rfl rfl (by decide) ?_
            refine q_aload_n rfl rfl ?_
            refine q_iload_n rfl rfl ?_
            refine q_iconst rfl ?_
            refine v_cv rfl rfl rfl rfl (by decide) ⟨⟨rfl, rfl⟩, by decide, rfl⟩ (Nat.le_of_ble_eq_true rfl) (Nat.le_of_ble_eq_true rfl) ?_
            refine q_aload_n rfl rfl ?_
            refine v_cv rfl rfl rfl rfl (by decide) ⟨⟨rfl, rfl⟩, by decide, rfl⟩ (Nat.le_of_ble_eq_true rfl) (Nat.le_of_ble_eq_true rfl) ?_
            refine q_aload_n rfl rfl ?_
            refine v_gi (z := 5) (v := c_77 1 5) rfl rfl rfl (by decide) rfl rfl (((up_n (by decide))).trans (hrb_hR_1134.2.1)) ?_
            refine q_iconst rfl ?_
            refine v_ic_ne_t (t := 12) rfl (by decide) ⟨by first | (clear ha2 hq0 hq1 hq2 hq3 hq4 hq5 hq8 h_1 h_2 h_3 h_4 h_5 h_6 h_7 h_8 h_9 h_10 h_11 h_46 h_65 h_66 h_70 h_75 h_76 h_81 h_1031 h_1037 h_1038 h_1040 h_1041 h_1042 h_1043 h_1044 h_1045 h_1046 h_1047 h_1048 h_1049 h_1050 h_1051 h_1052 h_1053 h_1054 h_1056 h_1069 h_1071 h_1110 h_1111 h_1112 h_1113 h_1114 h_1115 h_1138 h_1139 h_1140 h_1141 h_1136 h_1142 h_1143 h_1144 hq6 hq7 h_12 h_21 h_37 h_1055 h_1067 h_1108 h_1109 h_1135; omega) | omega, ⟨(Int.le_trans (by decide) h_1031.1), (Int.le_trans h_1031.2 (by decide))⟩, by decide, by decide⟩ ?_
            refine q_iconst rfl ?_
            refine v_zret rfl rfl (by decide) ?_
            refine bk_inl ?_
            refine v_if_ne_f (t := 8) rfl (by decide) (by decide) ?_
            refine q_vret rfl rfl ?_
            refine bk_inl ?_
            refine q_vret rfl rfl ?_
            refine bk_inl ?_
            refine q_goto (t := 154) rfl (by decide) ?_
            refine q_vret rfl rfl ?_
            have hI_1147 := iw_41_7 (v := c_1130 41 7 - 1) hI_1131 ⟨by first | (clear hq0 hq1 hq2 hq3 hq4 hq5 hq8 h_1 h_2 h_3 h_4 h_5 h_6 h_7 h_8 h_9 h_10 h_11 h_46 h_65 h_66 h_70 h_75 h_76 h_81 h_1031 h_1037 h_1038 h_1040 h_1041 h_1042 h_1043 h_1044 h_1045 h_1046 h_1047 h_1048 h_1049 h_1050 h_1051 h_1052 h_1053 h_1054 h_1056 h_1069 h_1071 h_1110 h_1111 h_1112 h_1113 h_1114 h_1115 h_1138 h_1139 h_1140 h_1141 h_1142 h_1143 h_1144 h_1145 hq6 hq7 h_12 h_21 h_37 h_1055 h_1067 h_1108 h_1109 h_1135; omega) | omega, by first | exact rgm_h h_1141.2 (by decide) | omega⟩
            have h_1148 : (up c_1130 41 7 (c_1130 41 7 - 1)) 41 5 = c_77 1 5 := (((up_n (by decide))).trans (hrb_hR_1134.2.1))
            have h_1149 : (up c_1130 41 7 (c_1130 41 7 - 1)) 41 4 = c_1130 41 4 := (up_n (by decide))
            have h_1150 : (up c_1130 41 7 (c_1130 41 7 - 1)) 41 6 = c_77 1 4 := (((up_n (by decide))).trans (hrb_hR_1134.2.2.2))
            have h_1151 : (up c_1130 41 7 (c_1130 41 7 - 1)) 41 29 = c_1130 41 29 := (up_n (by decide))
            have h_1152 : (up c_1130 41 7 (c_1130 41 7 - 1)) 41 7 = c_1130 41 7 - 1 := (up_e rfl)
            have h_1153 : (up c_1130 41 7 (c_1130 41 7 - 1)) 41 29 = c_1130 41 29 := (up_n (by decide))
            exact K (up c_1130 41 7 (c_1130 41 7 - 1))  hI_1147 (fun a j hm => (up_b (Decidable.or_iff_not_imp_left.mpr (fun h1 h2 => hm (Or.inr (Or.inr (Or.inr (Or.inl ⟨Decidable.not_not.mp h1, h2⟩))))))).trans ((hF_1132 a j (fun q => q.elim (fun h => hm (Or.inl h)) (fun q => q.elim (fun h => hm (Or.inr (Or.inl h))) (fun q => q.elim (fun h => hm (Or.inr (Or.inr (Or.inl h)))) (fun q => q.elim (fun h => hm (Or.inr (Or.inr (Or.inr (Or.inl h))))) (fun q => q.elim (fun h => hm (Or.inr (Or.inr (Or.inr (Or.inr (Or.inl h)))))) (fun q => q.elim (fun h => hm (Or.inr (Or.inr (Or.inr (Or.inr (Or.inr (Or.inl h))))))) (fun h => hm (Or.inr (Or.inr (Or.inr (Or.inr (Or.inr (Or.inr h)))))))))))))).trans ((hF_1105 a j (fun q => q.elim (fun h => hm (Or.inl h)) (fun q => q.elim (fun h => hm (Or.inr (Or.inl h))) (fun h => hm (Or.inr (Or.inr (Or.inl h))))))).trans ((up_b (Decidable.or_iff_not_imp_left.mpr (fun h1 h2 => hm (Or.inr (Or.inr (Or.inr (Or.inl ⟨Decidable.not_not.mp h1, h2⟩))))))).trans ((up_b (Decidable.or_iff_not_imp_left.mpr (fun h1 h2 => hm (Or.inl ⟨Decidable.not_not.mp h1, h2⟩)))).trans ((hF_1079 a j (fun h => hm (Or.inl h))).trans ((hF_1074 a j (fun h => hm (Or.inl h))).trans ((hF_1064 a j (fun h => hm (Or.inl h))).trans (hF_1059 a j (fun h => hm (Or.inl h))))))))))) (rt_i2 ⟨⟨by first | (clear ha2 hq0 hq1 hq2 hq3 hq4 hq5 hq8 h_1 h_2 h_3 h_4 h_5 h_6 h_7 h_8 h_9 h_10 h_11 h_46 h_65 h_66 h_70 h_75 h_76 h_81 h_1031 h_1037 h_1038 h_1040 h_1042 h_1043 h_1044 h_1045 h_1046 h_1047 h_1048 h_1049 h_1050 h_1051 h_1052 h_1053 h_1054 h_1056 h_1069 h_1071 h_1110 h_1111 h_1112 h_1113 h_1114 h_1115 h_1138 h_1139 h_1140 h_1141 h_1136 h_1142 h_1143 h_1144 hq6 hq7 h_12 h_21 h_37 h_1055 h_1067 h_1108 h_1109 h_1135; omega) | omega, by first | (clear ha2 hq0 hq1 hq2 hq3 hq4 hq5 hq8 h_1 h_2 h_3 h_4 h_5 h_6 h_7 h_8 h_9 h_10 h_11 h_46 h_65 h_66 h_70 h_75 h_76 h_81 h_1031 h_1037 h_1038 h_1041 h_1042 h_1043 h_1044 h_1045 h_1046 h_1047 h_1048 h_1049 h_1050 h_1051 h_1052 h_1053 h_1054 h_1056 h_1069 h_1071 h_1110 h_1111 h_1112 h_1113 h_1114 h_1115 h_1138 h_1139 h_1140 h_1141 h_1136 h_1142 h_1143 h_1144 h_1145 hq6 hq7 h_12 h_21 h_37 h_1055 h_1067 h_1108 h_1109 h_1135; omega) | omega⟩, by first | (clear ha2 hq0 hq1 hq2 hq3 hq4 hq5 hq8 h_1 h_2 h_3 h_4 h_5 h_6 h_7 h_8 h_9 h_10 h_11 h_46 h_65 h_66 h_70 h_75 h_76 h_81 h_1031 h_1037 h_1038 h_1040 h_1041 h_1042 h_1043 h_1044 h_1045 h_1047 h_1048 h_1049 h_1050 h_1051 h_1052 h_1053 h_1054 h_1056 h_1069 h_1071 h_1110 h_1111 h_1112 h_1113 h_1114 h_1115 h_1138 h_1139 h_1140 h_1141 h_1136 h_1142 h_1143 h_1144 h_1145 hq6 hq7 h_12 h_21 h_37 h_1055 h_1067 h_1108 h_1109 h_1135; omega) | omega, by first | (clear ha2 hq0 hq1 hq2 hq3 hq4 hq5 hq8 h_1 h_2 h_3 h_4 h_5 h_6 h_7 h_8 h_9 h_10 h_11 h_46 h_65 h_66 h_70 h_75 h_76 h_81 h_1031 h_1037 h_1038 h_1040 h_1041 h_1042 h_1043 h_1044 h_1045 h_1047 h_1048 h_1049 h_1050 h_1051 h_1052 h_1053 h_1054 h_1056 h_1069 h_1071 h_1110 h_1111 h_1112 h_1113 h_1114 h_1115 h_1138 h_1139 h_1140 h_1141 h_1136 h_1142 h_1143 h_1144 hq6 hq7 h_12 h_21 h_37 h_1055 h_1067 h_1108 h_1109 h_1135; omega) | omega, by first | (clear ha2 hq0 hq1 hq2 hq3 hq4 hq5 hq8 h_1 h_2 h_3 h_4 h_5 h_6 h_7 h_8 h_9 h_10 h_11 h_46 h_65 h_66 h_70 h_75 h_76 h_81 h_1031 h_1037 h_1038 h_1040 h_1042 h_1043 h_1044 h_1045 h_1046 h_1047 h_1048 h_1049 h_1050 h_1051 h_1052 h_1053 h_1054 h_1056 h_1069 h_1071 h_1110 h_1111 h_1112 h_1113 h_1114 h_1115 h_1138 h_1139 h_1140 h_1141 h_1136 h_1142 h_1143 h_1144 h_1145 hq6 hq7 h_12 h_21 h_37 h_1055 h_1067 h_1108 h_1109 h_1135; omega) | omega⟩) (Or.inr (Or.inl (by first | (clear ha2 hq0 hq1 hq2 hq3 hq4 hq5 hq8 h_1 h_2 h_3 h_4 h_5 h_6 h_7 h_8 h_9 h_10 h_11 h_46 h_65 h_66 h_70 h_75 h_76 h_81 h_1031 h_1037 h_1038 h_1040 h_1042 h_1043 h_1044 h_1045 h_1046 h_1047 h_1048 h_1049 h_1050 h_1051 h_1052 h_1053 h_1054 h_1056 h_1069 h_1071 h_1110 h_1111 h_1112 h_1113 h_1114 h_1115 h_1138 h_1139 h_1140 h_1141 h_1136 h_1142 h_1143 h_1144 hq6 hq7 h_12 h_21 h_37 h_1055 h_1067 h_1108 h_1109 h_1135; omega) | omega))) (by first | (clear ha2 hq0 hq1 hq2 hq3 hq4 hq5 hq8 h_1 h_2 h_3 h_4 h_5 h_6 h_7 h_8 h_9 h_10 h_11 h_46 h_65 h_66 h_70 h_75 h_76 h_81 h_1031 h_1037 h_1038 h_1040 h_1041 h_1042 h_1043 h_1044 h_1045 h_1046 h_1047 h_1048 h_1049 h_1050 h_1051 h_1052 h_1053 h_1054 h_1056 h_1069 h_1071 h_1110 h_1111 h_1112 h_1113 h_1114 h_1115 h_1138 h_1139 h_1140 h_1141 h_1142 h_1143 h_1144 h_1145 hq6 hq7 h_12 h_21 h_37 h_1055 h_1067 h_1108 h_1109 h_1135; omega) | omega) (fun hz => absurd hz (by omega))
          · refine v_ic_ge_f (t := 32) rfl (by decide) ⟨(Int.le_trans (by decide) h_1037.1), (Int.not_le.mp h_1038), by decide⟩ ?_
            refine q_aload_n rfl rfl ?_
            refine v_gr (t := (A + 9)) rfl rfl (ck_p7 hA) (a68 hA rfl) rfl ?_
            refine q_aload_n rfl rfl ?_
            refine v_gi (z := 5) (v := c_1032 (A + 7) 5) rfl rfl (ck_p7 hA) (a68 hA rfl) rfl rfl rfl ?_
            refine q_iload_n rfl rfl ?_
            refine v_is rfl (ck_p9 hA) (a68 hA rfl) (by decide) (by omega) ?_
            refine q_aload_n rfl rfl ?_
            refine q_dup rfl rfl ?_
            refine v_gi (z := 5) (v := c_1032 (A + 7) 5) rfl rfl (ck_p7 hA) (a68 hA rfl) rfl rfl (up_c (pp rfl)) ?_
            refine q_iconst rfl ?_
            refine v_iadd (v := c_1032 (A + 7) 5 + 1) rfl rfl ?_
            refine v_pi (z := 5) rfl rfl (ck_p7 hA) (a68 hA rfl) rfl rfl rfl (by decide) ?_
            refine q_vret rfl rfl ?_
            refine bk_inl ?_
            refine q_vret rfl rfl ?_
            have hI_1154 := iw_lg (j := c_1032 (A + 7) 5) (v := (wd1_0 F (nx F e1 p0) (ln F e1 (nx F e1 p0))) + 1997) hI_1033 (lgp (k := 9) hA (by decide)) ⟨by omega, by omega⟩ (by omega)
            have hI_1155 := iw_p7_5 (v := c_1032 (A + 7) 5 + 1) hI_1154 hA ⟨by first | exact rgp_l h_1037.1 (by decide) | omega, by first | (clear ha2 hq0 hq1 hq2 hq3 hq4 hq5 hq8 h_1 h_2 h_3 h_4 h_5 h_6 h_7 h_8 h_9 h_10 h_11 h_46 h_65 h_66 h_70 h_75 h_76 h_81 h_1031 h_1037 hq6 hq7 h_12 h_21 h_37; omega) | omega⟩
            intro hE_1156
            have hW : Wd P Q P P (up (up c_1032 (A + 9) (c_1032 (A + 7) 5) ((wd1_0 F (nx F e1 p0) (ln F e1 (nx F e1 p0))) + 1997)) (A + 7) 5 (c_1032 (A + 7) 5 + 1)) = Wd P Q P P m9 := (Prod.mk.inj (Prod.mk.inj hE_1156).2).1
            have h_1157 := ir_1_4 hJ9
            have h_1158 : m9 1 4 = c_77 1 4 := wd_fv (z := 4) 4 rfl hW rfl rfl rfl rfl (by decide) ((up_c (pn hA rfl rfl)).trans ((up_c (pn hA rfl rfl)).trans (hz_1035))) ⟨(Int.le_trans (by decide) h_81.1), (Int.le_trans h_81.2 (by decide))⟩ ⟨(Int.le_trans (by decide) h_1157.1), (Int.le_trans h_1157.2 (by decide))⟩
            have h_1159 := ir_1_2 hI_1033
            have h_1160 := ir_1_2 hJ9
            have h_1161 : m9 1 2 = c_1032 1 2 := wd_fv (z := 2) 2 rfl hW rfl rfl rfl rfl (by decide) ((up_c (pn hA rfl rfl)).trans (up_c (pn hA rfl rfl))) ⟨(Int.le_trans (by decide) h_1159.1), (Int.le_trans h_1159.2 (by decide))⟩ ⟨(Int.le_trans (by decide) h_1160.1), (Int.le_trans h_1160.2 (by decide))⟩
            have h_1162 := ir_1_5 hJ9
            have h_1163 : m9 1 5 = c_77 1 5 := wd_fv (z := 5) 5 rfl hW rfl rfl rfl rfl (by decide) ((up_c (pn hA rfl rfl)).trans ((up_c (pn hA rfl rfl)).trans (hz_1036))) ⟨(Int.le_trans (by decide) h_1031.1), (Int.le_trans h_1031.2 (by decide))⟩ ⟨(Int.le_trans (by decide) h_1162.1), (Int.le_trans h_1162.2 (by decide))⟩
            have h_1164 := ir_p7_5 hJ9 hA
            have h_1165 : m9 (A + 7) 5 = c_1032 (A + 7) 5 + 1 := wd_fv (z := 5) 5 rfl hW (ck_p7 hA) (ck_p7 hA) rfl rfl (by omega) (up_e rfl) ⟨by first | exact rgp_l h_1037.1 (by decide) | omega, by first | exact rgp_h h_1037.2 (by decide) | omega⟩ ⟨(Int.le_trans (by decide) h_1164.1), (Int.le_trans h_1164.2 (by decide))⟩
            refine q_aload_n rfl rfl ?_
            refine v_cv rfl rfl rfl rfl (by decide) ⟨⟨rfl, rfl⟩, by decide, rfl⟩ (Nat.le_of_ble_eq_true rfl) (Nat.le_of_ble_eq_true rfl) ?_
            refine q_aload_n rfl rfl ?_
            have h_1166 := ir_41_5 hI
            have h_1167 := ir_41_4 hI
            have h_1168 := ir_41_6 hI
            have h_1169 := rt_ok hRt (by omega)
            have hro_hRt := rt_ok hRt (by omega)
            refine v_gi (z := 5) (v := (-1)) rfl rfl rfl (by decide) rfl rfl hro_hRt.2.1 ?_
            refine q_iconst rfl ?_
            refine v_ic_ne_f (t := 12) rfl (by decide) (by decide) ?_
            refine q_iconst rfl ?_
            refine q_goto (t := 13) rfl (by decide) ?_
            refine v_zret rfl rfl (by decide) ?_
            refine bk_inl ?_
            refine v_if_ne_t (t := 8) rfl (by decide) (by decide) ?_
            refine q_aload_n rfl rfl ?_
            have h_1170 : -2147483648 ≤ (H (nx F e1 p0)) ∧ (H (nx F e1 p0)) ≤ 2147483647 := by rw [← hH (nx F e1 p0)]; exact ir_43 hI (nx F e1 p0)
            have h_1171 := hU (nx F e1 p0) (by omega) (by omega)
            have h_1172 := hb_or (b := H) (e := e1) (r := (nx F e1 p0))
            have h_1173 := hb_bd (b := H) (e := e1) (r := (nx F e1 p0)) (lo := -2147483648) (hi := 2147483647) h_1170 (by decide)
            refine v_cv rfl rfl rfl rfl (by decide) ⟨⟨rfl, rfl⟩, by decide, rfl⟩ (Nat.le_of_ble_eq_true rfl) (Nat.le_of_ble_eq_true rfl) (f_154 (e1 := e1) (a9 := p0) (B := H) (r8 := (nx F e1 p0)) (r := (hb H e1 (nx F e1 p0))) hI ((hr_e1)) (((hro_hRt.2.2.1).trans ((hg_p0)))) (fun j => hH j) ((nx_tr hU (by first | (clear ha2 hq0 hq1 hq2 hq3 hq4 hq5 hq8 h_1 h_2 h_3 h_4 h_6 h_7 h_8 h_9 h_10 h_11 h_46 h_65 h_66 h_70 h_75 h_76 h_81 h_1031 h_1037 h_1157 h_1158 h_1159 h_1160 h_1161 h_1162 h_1163 h_1164 h_1165 h_1166 h_1167 h_1168 h_1169 hq6 hq7 h_12 h_21 h_37; omega) | omega) (by first | (clear ha2 hq0 hq1 hq2 hq3 hq4 hq8 h_1 h_2 h_3 h_4 h_5 h_6 h_7 h_8 h_9 h_10 h_11 h_46 h_65 h_66 h_70 h_75 h_76 h_81 h_1031 h_1037 h_1157 h_1158 h_1159 h_1160 h_1161 h_1162 h_1163 h_1164 h_1165 h_1166 h_1167 h_1168 h_1169 hq6 hq7 h_12 h_21 h_37; omega) | omega)).trans (rfl)) rfl (fun c_1174 hI_1175 hF_1176 h_1177 => ?_))
            refine bk_inl ?_
            refine v_bip rfl (by decide) ?_
            refine v_ic_ne_t (t := 45) rfl (by decide) ⟨by first | (clear ha2 hq0 hq1 hq2 hq3 hq8 h_3 h_4 h_5 h_6 h_7 h_8 h_9 h_11 h_65 h_66 h_70 h_75 h_76 h_81 h_1031 h_1037 h_1157 h_1158 h_1159 h_1160 h_1161 h_1162 h_1163 h_1164 h_1165 h_1166 h_1167 h_1168 h_1169; omega) | omega, ⟨h_1173.1, h_1173.2⟩, by decide, by decide⟩ ?_
            refine q_aload_n rfl rfl ?_
            have kn_1178 : Hid (c_1174 41 3 = e1) := (hF_1176 41 3 (fun h => absurd h.2 (ni rfl))).trans (hr_e1)
            refine v_cv rfl rfl rfl rfl (by decide) ⟨⟨rfl, rfl⟩, by decide, rfl⟩ (Nat.le_of_ble_eq_true rfl) (Nat.le_of_ble_eq_true rfl) (f_154 (e1 := e1) (a9 := (nx F e1 p0)) (B := H) (r8 := (nx F e1 p0)) (r := (hb H e1 (nx F e1 p0))) hI_1175 ((hid kn_1178)) ((h_1177)) (fun j => (hF_1176 43 j (fun h => absurd h.1 (nn rfl))).trans (hH j)) ((nx_tr hU (by first | (clear ha2 hq0 hq1 hq2 hq3 hq4 hq5 hq8 h_1 h_2 h_3 h_4 h_6 h_7 h_8 h_9 h_11 h_46 h_65 h_66 h_70 h_75 h_76 h_81 h_1031 h_1037 h_1157 h_1158 h_1159 h_1160 h_1161 h_1162 h_1163 h_1164 h_1165 h_1166 h_1167 h_1168 h_1169 h_1170 h_1171 h_1173 hq6 hq7 h_12 h_21 h_37 h_1172; omega) | omega) (by first | (clear ha2 hq0 hq1 hq2 hq3 hq4 hq8 h_1 h_2 h_3 h_4 h_5 h_6 h_7 h_8 h_9 h_10 h_11 h_46 h_65 h_66 h_70 h_75 h_76 h_81 h_1031 h_1037 h_1157 h_1158 h_1159 h_1160 h_1161 h_1162 h_1163 h_1164 h_1165 h_1166 h_1167 h_1168 h_1169 h_1170 h_1171 h_1173 hq6 hq7 h_12 h_21 h_37 h_1172; omega) | omega)).trans ((nx_z (by omega)))) rfl (fun c_1179 hI_1180 hF_1181 h_1182 => ?_))
            refine bk_inl ?_
            refine q_call rfl rfl rfl rfl (f_156 (a0 := (hb H e1 (nx F e1 p0))) hI_1180 (show (-2147483648) ≤ (hb H e1 (nx F e1 p0)) ∧ (hb H e1 (nx F e1 p0)) ≤ 2147483647 from h_1173) (fun y_1183 hy_1183 h_1184 => ?_))
            refine bk_inl ?_
            refine v_if_eq_t (t := 71) rfl (by decide) (by first | (clear ha2 hq0 hq1 hq2 hq3 hq8 h_3 h_4 h_5 h_6 h_7 h_8 h_9 h_11 h_65 h_66 h_70 h_75 h_76 h_81 h_1031 h_1037 h_1157 h_1158 h_1159 h_1160 h_1161 h_1162 h_1163 h_1164 h_1165 h_1166 h_1167 h_1168 h_1169; omega) | omega) ?_
            refine q_aload_n rfl rfl ?_
            have kn_1185 : Hid (c_1179 41 3 = e1) := (hF_1181 41 3 (fun h => absurd h.2 (ni rfl))).trans (hid kn_1178)
            have h_1186 := wv_bd (b := F) (r := (nx F e1 p0)) (l := (ln F e1 (nx F e1 p0))) (fun j h1 h2 => ⟨(ln_in (e := e1) (a := (nx F e1 p0)) h1 h2).1, (ln_in (e := e1) (a := (nx F e1 p0)) h1 h2).2.1⟩)
            have h_1187 := wr1_9 (b := F) (r := (nx F e1 p0)) (l := (ln F e1 (nx F e1 p0))) (by omega) (fun j h1 h2 => ⟨(ln_in (e := e1) (a := (nx F e1 p0)) h1 h2).1, (ln_in (e := e1) (a := (nx F e1 p0)) h1 h2).2.1⟩) (by omega)
            have h_1188 : (wv F (nx F e1 p0) (ln F e1 (nx F e1 p0))) = 441972 → (ln F e1 (nx F e1 p0)) - (nx F e1 p0) = 4 := wl_most (by omega) (fun j h1 h2 => ⟨(ln_in (e := e1) (a := (nx F e1 p0)) h1 h2).1, (ln_in (e := e1) (a := (nx F e1 p0)) h1 h2).2.1⟩)
            refine v_cv rfl rfl rfl rfl (by decide) ⟨⟨rfl, rfl⟩, by decide, rfl⟩ (Nat.le_of_ble_eq_true rfl) (Nat.le_of_ble_eq_true rfl) (f_157 (e1 := e1) (a9 := (nx F e1 p0)) (B := H) (r8 := (nx F e1 p0)) (L8 := (ln F e1 (nx F e1 p0))) (W8 := (wv F (nx F e1 p0) (ln F e1 (nx F e1 p0)))) hI_1180 ((hid kn_1185)) ((h_1182)) (fun j => ((hF_1181 43 j (fun h => absurd h.1 (nn rfl))).trans (hF_1176 43 j (fun h => absurd h.1 (nn rfl)))).trans (hH j)) ((nx_tr hU (by first | (clear ha2 hq0 hq1 hq2 hq3 hq4 hq5 hq8 h_1 h_2 h_3 h_4 h_6 h_7 h_8 h_9 h_11 h_46 h_65 h_66 h_70 h_75 h_76 h_81 h_1031 h_1037 h_1157 h_1158 h_1159 h_1160 h_1161 h_1162 h_1163 h_1164 h_1165 h_1166 h_1167 h_1168 h_1169 h_1170 h_1171 h_1173 hq6 hq7 h_12 h_21 h_37 h_1172 h_1184; omega) | omega) (by first | (clear ha2 hq0 hq1 hq2 hq3 hq4 hq8 h_1 h_2 h_3 h_4 h_5 h_6 h_7 h_8 h_9 h_10 h_11 h_46 h_65 h_66 h_70 h_75 h_76 h_81 h_1031 h_1037 h_1157 h_1158 h_1159 h_1160 h_1161 h_1162 h_1163 h_1164 h_1165 h_1166 h_1167 h_1168 h_1169 h_1170 h_1171 h_1173 hq6 hq7 h_12 h_21 h_37 h_1172 h_1184; omega) | omega)).trans ((nx_z (by omega)))) ((ln_tr hU (by first | (clear ha2 hq0 hq1 hq2 hq3 hq4 hq5 hq8 h_1 h_2 h_3 h_4 h_6 h_7 h_8 h_9 h_11 h_46 h_65 h_66 h_70 h_75 h_76 h_81 h_1031 h_1037 h_1157 h_1158 h_1159 h_1160 h_1161 h_1162 h_1163 h_1164 h_1165 h_1166 h_1167 h_1168 h_1169 h_1170 h_1171 h_1173 hq6 hq7 h_12 h_21 h_37 h_1172 h_1184; omega) | omega) (by first | (clear ha2 hq0 hq1 hq2 hq3 hq4 hq8 h_1 h_2 h_3 h_4 h_5 h_6 h_7 h_8 h_9 h_10 h_11 h_46 h_65 h_66 h_70 h_75 h_76 h_81 h_1031 h_1037 h_1157 h_1158 h_1159 h_1160 h_1161 h_1162 h_1163 h_1164 h_1165 h_1166 h_1167 h_1168 h_1169 h_1170 h_1171 h_1173 hq6 hq7 h_12 h_21 h_37 h_1172 h_1184; omega) | omega)).trans (rfl)) ((wv_tr hU (by first | (clear ha2 hq0 hq1 hq2 hq3 hq4 hq5 hq8 h_1 h_2 h_3 h_4 h_6 h_7 h_8 h_9 h_11 h_46 h_65 h_66 h_70 h_75 h_76 h_81 h_1031 h_1037 h_1157 h_1158 h_1159 h_1160 h_1161 h_1162 h_1163 h_1164 h_1165 h_1166 h_1167 h_1168 h_1169 h_1170 h_1171 h_1173 h_1186 h_1188 hq6 hq7 h_12 h_21 h_37 h_1172 h_1184; omega) | omega) (by first | (clear ha2 hq0 hq1 hq2 hq3 hq4 hq8 h_1 h_2 h_3 h_4 h_5 h_6 h_7 h_8 h_9 h_10 h_11 h_65 h_66 h_70 h_75 h_76 h_81 h_1031 h_1037 h_1157 h_1158 h_1159 h_1160 h_1161 h_1162 h_1163 h_1164 h_1165 h_1166 h_1167 h_1168 h_1169 h_1170 h_1171 h_1173 h_1186 h_1188 hq6 hq7 h_12 h_21 h_37 h_1172 h_1184; omega) | omega) (fun j h1 h2 => ⟨(ln_in (e := e1) (a := (nx F e1 p0)) h1 h2).1, (ln_in (e := e1) (a := (nx F e1 p0)) h1 h2).2.1⟩)).trans (rfl)) (fun c_1189 hI_1190 hF_1191 hz_1192 => ?_))
            refine bk_inl ?_
            refine q_ldc_w_s rfl rfl rfl (by decide) ?_
            refine q_call rfl rfl rfl rfl (s_158_20 ?_)
            refine bk_inl ?_
            refine v_ic_ne_t (t := 94) rfl (by decide) ⟨by first | (clear ha2 hq0 hq1 hq2 hq3 hq4 hq5 hq8 h_1 h_2 h_3 h_4 h_5 h_6 h_7 h_8 h_9 h_10 h_11 h_46 h_65 h_66 h_70 h_75 h_76 h_81 h_1031 h_1037 h_1157 h_1158 h_1159 h_1160 h_1161 h_1162 h_1163 h_1164 h_1165 h_1166 h_1167 h_1168 h_1169 h_1170 h_1171 h_1173 h_1186 hq6 hq7 h_12 h_21 h_37 h_1172 h_1184; omega) | omega, ⟨(Int.le_trans (by decide) h_1186.1), (Int.le_trans h_1186.2 (by decide))⟩, by decide, by decide⟩ ?_
            refine q_aload_n rfl rfl ?_
            have kn_1193 : Hid (c_1189 41 3 = e1) := (hF_1191 41 3 (fun h => absurd h.2 (ni rfl))).trans (hid kn_1185)
            refine v_cv rfl rfl rfl rfl (by decide) ⟨⟨rfl, rfl⟩, by decide, rfl⟩ (Nat.le_of_ble_eq_true rfl) (Nat.le_of_ble_eq_true rfl) (f_157 (e1 := e1) (a9 := (nx F e1 p0)) (B := H) (r8 := (nx F e1 p0)) (L8 := (ln F e1 (nx F e1 p0))) (W8 := (wv F (nx F e1 p0) (ln F e1 (nx F e1 p0)))) hI_1190 ((hid kn_1193)) ((hz_1192)) (fun j => ((hF_1191 43 j (fun h => absurd h.1 (nn rfl))).trans ((hF_1181 43 j (fun h => absurd h.1 (nn rfl))).trans (hF_1176 43 j (fun h => absurd h.1 (nn rfl))))).trans (hH j)) ((nx_tr hU (by first | (clear ha2 hq0 hq1 hq2 hq3 hq4 hq5 hq8 h_1 h_2 h_3 h_4 h_6 h_7 h_8 h_9 h_11 h_46 h_65 h_66 h_70 h_75 h_76 h_81 h_1031 h_1037 h_1157 h_1158 h_1159 h_1160 h_1161 h_1162 h_1163 h_1164 h_1165 h_1166 h_1167 h_1168 h_1169 h_1170 h_1171 h_1173 h_1186 h_1188 hq6 hq7 h_12 h_21 h_37 h_1172 h_1184; omega) | omega) (by first | (clear ha2 hq0 hq1 hq2 hq3 hq4 hq8 h_1 h_2 h_3 h_4 h_5 h_6 h_7 h_8 h_9 h_10 h_11 h_46 h_65 h_66 h_70 h_75 h_76 h_81 h_1031 h_1037 h_1157 h_1158 h_1159 h_1160 h_1161 h_1162 h_1163 h_1164 h_1165 h_1166 h_1167 h_1168 h_1169 h_1170 h_1171 h_1173 h_1186 h_1188 hq6 hq7 h_12 h_21 h_37 h_1172 h_1184; omega) | omega)).trans ((nx_z (by omega)))) ((ln_tr hU (by first | (clear ha2 hq0 hq1 hq2 hq3 hq4 hq5 hq8 h_1 h_2 h_3 h_4 h_6 h_7 h_8 h_9 h_11 h_46 h_65 h_66 h_70 h_75 h_76 h_81 h_1031 h_1037 h_1157 h_1158 h_1159 h_1160 h_1161 h_1162 h_1163 h_1164 h_1165 h_1166 h_1167 h_1168 h_1169 h_1170 h_1171 h_1173 h_1186 h_1188 hq6 hq7 h_12 h_21 h_37 h_1172 h_1184; omega) | omega) (by first | (clear ha2 hq0 hq1 hq2 hq3 hq4 hq8 h_1 h_2 h_3 h_4 h_5 h_6 h_7 h_8 h_9 h_10 h_11 h_46 h_65 h_66 h_70 h_75 h_76 h_81 h_1031 h_1037 h_1157 h_1158 h_1159 h_1160 h_1161 h_1162 h_1163 h_1164 h_1165 h_1166 h_1167 h_1168 h_1169 h_1170 h_1171 h_1173 h_1186 h_1188 hq6 hq7 h_12 h_21 h_37 h_1172 h_1184; omega) | omega)).trans (rfl)) ((wv_tr hU (by first | (clear ha2 hq0 hq1 hq2 hq3 hq4 hq5 hq8 h_1 h_2 h_3 h_4 h_6 h_7 h_8 h_9 h_11 h_46 h_65 h_66 h_70 h_75 h_76 h_81 h_1031 h_1037 h_1157 h_1158 h_1159 h_1160 h_1161 h_1162 h_1163 h_1164 h_1165 h_1166 h_1167 h_1168 h_1169 h_1170 h_1171 h_1173 h_1186 h_1188 hq6 hq7 h_12 h_21 h_37 h_1172 h_1184; omega) | omega) (by first | (clear ha2 hq0 hq1 hq2 hq3 hq4 hq8 h_1 h_2 h_3 h_4 h_5 h_6 h_7 h_8 h_9 h_10 h_11 h_65 h_66 h_70 h_75 h_76 h_81 h_1031 h_1037 h_1157 h_1158 h_1159 h_1160 h_1161 h_1162 h_1163 h_1164 h_1165 h_1166 h_1167 h_1168 h_1169 h_1170 h_1171 h_1173 h_1186 h_1188 hq6 hq7 h_12 h_21 h_37 h_1172 h_1184; omega) | omega) (fun j h1 h2 => ⟨(ln_in (e := e1) (a := (nx F e1 p0)) h1 h2).1, (ln_in (e := e1) (a := (nx F e1 p0)) h1 h2).2.1⟩)).trans (rfl)) (fun c_1194 hI_1195 hF_1196 hz_1197 => ?_))
            refine bk_inl ?_
            refine q_ldc_w_s rfl rfl rfl (by decide) ?_
            refine q_call rfl rfl rfl rfl (s_158_21 ?_)
            refine bk_inl ?_
            refine v_ic_ne_f (t := 117) rfl (by decide) (by first | (clear ha2 hq0 hq1 hq2 hq3 hq4 hq5 hq8 h_1 h_2 h_3 h_4 h_5 h_6 h_7 h_8 h_9 h_10 h_11 h_46 h_65 h_66 h_70 h_75 h_76 h_81 h_1031 h_1037 h_1157 h_1158 h_1159 h_1160 h_1161 h_1162 h_1163 h_1164 h_1165 h_1166 h_1167 h_1168 h_1169 h_1170 h_1171 h_1173 h_1186 hq6 hq7 h_12 h_21 h_37 h_1172 h_1184; omega) | omega) ?_
            refine q_aload_n rfl rfl ?_
            refine q_iconst rfl ?_
            refine v_bip rfl (by decide) ?_
            refine v_cv rfl rfl rfl rfl (by decide) ⟨⟨rfl, rfl⟩, by decide, rfl⟩ (Nat.le_of_ble_eq_true rfl) (Nat.le_of_ble_eq_true rfl) ?_
            refine q_aload_n rfl rfl ?_
            refine q_iload_n rfl rfl ?_
            refine v_cv rfl rfl rfl rfl (by decide) ⟨⟨rfl, rfl⟩, by decide, rfl⟩ (Nat.le_of_ble_eq_true rfl) (Nat.le_of_ble_eq_true rfl) ?_
            refine q_aload_n rfl rfl ?_
            refine v_cv rfl rfl rfl rfl (by decide) ⟨⟨rfl, rfl⟩, by decide, rfl⟩ (Nat.le_of_ble_eq_true rfl) (Nat.le_of_ble_eq_true rfl) ?_
            refine q_aload_n rfl rfl ?_
            have kn_1198 : Hid (c_1174 41 5 = (-1)) := (hF_1176 41 5 (fun h => absurd h.2 (ni rfl))).trans hro_hRt.2.1
            have kn_1199 : Hid (c_1179 41 5 = (-1)) := (hF_1181 41 5 (fun h => absurd h.2 (ni rfl))).trans (hid kn_1198)
            have kn_1200 : Hid (c_1189 41 5 = (-1)) := (hF_1191 41 5 (fun h => absurd h.2 (ni rfl))).trans (hid kn_1199)
            have kn_1201 : Hid (c_1194 41 5 = (-1)) := (hF_1196 41 5 (fun h => absurd h.2 (ni rfl))).trans (hid kn_1200)
            refine v_gi (z := 5) (v := (-1)) rfl rfl rfl (by decide) rfl rfl (hid kn_1201) ?_
            refine q_iconst rfl ?_
            refine v_ic_ne_f (t := 12) rfl (by decide) (by decide) ?_
            refine q_iconst rfl ?_
            refine q_goto (t := 13) rfl (by decide) ?_
            refine v_zret rfl rfl (by decide) ?_
            refine bk_inl ?_
            refine v_if_eq_f (t := 25) rfl (by decide) (by decide) ?_
            refine q_aload_n rfl rfl ?_
            have kn_1202 : Hid (c_1174 41 7 = o0) := (hF_1176 41 7 (fun h => absurd h.2 (ni rfl))).trans (hr_o0)
            have kn_1203 : Hid (c_1179 41 7 = o0) := (hF_1181 41 7 (fun h => absurd h.2 (ni rfl))).trans (hid kn_1202)
            have kn_1204 : Hid (c_1189 41 7 = o0) := (hF_1191 41 7 (fun h => absurd h.2 (ni rfl))).trans (hid kn_1203)
            have kn_1205 : Hid (c_1194 41 7 = o0) := (hF_1196 41 7 (fun h => absurd h.2 (ni rfl))).trans (hid kn_1204)
            refine v_gi (z := 7) (v := o0) rfl rfl rfl (by decide) rfl rfl (hid kn_1205) ?_
            refine v_bip rfl (by decide) ?_
            refine v_ic_ne_t (t := 25) rfl (by decide) ⟨by first | (clear ha2 hq0 hq1 hq3 hq4 hq5 hq8 h_1 h_2 h_3 h_4 h_5 h_6 h_7 h_8 h_9 h_10 h_11 h_46 h_65 h_66 h_75 h_76 h_81 h_1031 h_1037 h_1157 h_1158 h_1159 h_1160 h_1161 h_1162 h_1163 h_1164 h_1165 h_1166 h_1167 h_1168 h_1169 h_1170 h_1171 h_1173 h_1186 h_1188 hq6 hq7 h_12 h_21 h_37 h_1172 h_1184; omega) | omega, ⟨(Int.le_trans (by decide) (rg_eq hr_o0 h_8).1), (Int.le_trans (rg_eq hr_o0 h_8).2 (by decide))⟩, by decide, by decide⟩ ?_
            refine q_aload_n rfl rfl ?_
            refine v_cv rfl rfl rfl rfl (by decide) ⟨⟨rfl, rfl⟩, by decide, rfl⟩ (Nat.le_of_ble_eq_true rfl) (Nat.le_of_ble_eq_true rfl) ?_
            refine q_aload_n rfl rfl ?_
            refine v_gi (z := 5) (v := (-1)) rfl rfl rfl (by decide) rfl rfl (hid kn_1201) ?_
            refine q_iconst rfl ?_
            refine v_ic_ne_f (t := 12) rfl (by decide) (by decide) ?_
            refine q_iconst rfl ?_
            refine q_goto (t := 13) rfl (by decide) ?_
            refine v_zret rfl rfl (by decide) ?_
            refine bk_inl ?_
            refine v_if_eq_f (t := 42) rfl (by decide) (by decide) ?_
            refine q_aload_n rfl rfl ?_
            refine q_dup rfl rfl ?_
            refine v_gi (z := 4) (v := (nx F e1 p0)) rfl rfl rfl (by decide) rfl rfl (hz_1197) ?_
            refine q_iload_n rfl rfl ?_
            refine v_iadd (v := (nx F e1 p0) + 4) rfl rfl ?_
            refine v_pi (z := 4) rfl rfl rfl (by decide) rfl rfl rfl (by decide) ?_
            refine q_aload_n rfl rfl ?_
            refine q_dup rfl rfl ?_
            refine v_gi (z := 7) (v := o0) rfl rfl rfl (by decide) rfl rfl ((up_n (by decide)).trans (hid kn_1205)) ?_
            refine q_iconst rfl ?_
            refine v_iadd (v := o0 + 1) rfl rfl ?_
            refine v_pi (z := 7) rfl rfl rfl (by decide) rfl rfl rfl (by decide) ?_
            refine q_vret rfl rfl ?_
            refine bk_inl ?_
            refine q_aload_n rfl rfl ?_
            refine v_bip rfl (by decide) ?_
            have hI_1206 := iw_41_4 (v := (nx F e1 p0) + 4) hI_1195 ⟨by first | exact rgp_l (rg_be h_10 ((rg_eq hg_p0 h_5).1) ((rg_eq hg_e1 h_1).2)).1 (by decide) | omega, by first | exact rgp_h (rg_be h_10 ((rg_eq hg_p0 h_5).1) ((rg_eq hg_e1 h_1).2)).2 (by decide) | omega⟩
            have hI_1207 := iw_41_7 (v := o0 + 1) hI_1206 ⟨by first | exact rgp_l (rg_eq hr_o0 h_8).1 (by decide) | omega, by first | (clear ha2 hq0 hq1 hq3 hq4 hq5 hq8 h_1 h_2 h_3 h_4 h_5 h_6 h_7 h_8 h_9 h_10 h_11 h_46 h_65 h_66 h_75 h_76 h_81 h_1031 h_1037 h_1157 h_1158 h_1159 h_1160 h_1161 h_1162 h_1163 h_1164 h_1165 h_1166 h_1167 h_1168 h_1169 h_1170 h_1171 h_1173 h_1186 h_1188 hq6 hq7 h_12 h_21 h_37 h_1172 h_1184; omega) | omega⟩
            have kn_1208 : Hid (c_62 1 1 = e1) := (hF_64 1 1 (fun q => q.elim (fun h => absurd h.2 (ni rfl)) (fun q => q.elim (fun h => absurd h.2 (ni rfl)) (fun h => absurd h.2 (ni rfl))))).trans (hid kn_39)
            have kn_1209 : Hid (c_1194 41 3 = e1) := (hF_1196 41 3 (fun h => absurd h.2 (ni rfl))).trans (hid kn_1193)
            have h_1210 : c_62 1 4 = 0 := (hz_68)
            have h_1211 : c_62 1 2 = (ln F e1 (nx F e1 p0)) := (hz_67)
            have h_1212 : c_62 1 5 = g0 := (hz_69)
            have h_1213 : (up (up c_1194 41 4 ((nx F e1 p0) + 4)) 41 7 (o0 + 1)) 41 5 = (-1) := ((up_n (by decide)).trans ((up_n (by decide)).trans (hid kn_1201)))
            have h_1214 : (up (up c_1194 41 4 ((nx F e1 p0) + 4)) 41 7 (o0 + 1)) 41 4 = (nx F e1 p0) + 4 := ((up_n (by decide)).trans (up_e rfl))
            have kn_1215 : Hid (c_1174 41 6 = c 41 6) := hF_1176 41 6 (fun h => absurd h.2 (ni rfl))
            have kn_1216 : Hid (c_1179 41 6 = c 41 6) := (hF_1181 41 6 (fun h => absurd h.2 (ni rfl))).trans (hid kn_1215)
            have kn_1217 : Hid (c_1189 41 6 = c 41 6) := (hF_1191 41 6 (fun h => absurd h.2 (ni rfl))).trans (hid kn_1216)
            have kn_1218 : Hid (c_1194 41 6 = c 41 6) := (hF_1196 41 6 (fun h => absurd h.2 (ni rfl))).trans (hid kn_1217)
            have h_1219 : (up (up c_1194 41 4 ((nx F e1 p0) + 4)) 41 7 (o0 + 1)) 41 6 = c 41 6 := ((up_n (by decide)).trans ((up_n (by decide)).trans (hid kn_1218)))
            refine v_cv rfl rfl rfl rfl (by decide) ⟨⟨rfl, rfl⟩, by decide, rfl⟩ (Nat.le_of_ble_eq_true rfl) (Nat.le_of_ble_eq_true rfl) (L_11_3 (m := c_62) (e1 := e1) (a9 := (ln F e1 (nx F e1 p0))) (f0 := 0) (F := F) (H := H) hI_1207 hI_63 hI_72 ((hid kn_1208)) (((up_n (by decide)).trans ((up_n (by decide)).trans (hid kn_1209)))) ((hz_67)) ((hz_68)) (fun j => ((hF_64 2 j (fun q => q.elim (fun h => absurd h.1 (nn rfl)) (fun q => q.elim (fun h => absurd h.1 (nn rfl)) (fun h => absurd h.1 (nn rfl))))).trans ((hF_36 2 j (fun h => absurd h.1 (nn rfl))).trans ((hF_26 2 j (fun h => absurd h.1 (nn rfl))).trans (hF_20 2 j (fun h => absurd h.1 (nn rfl)))))).trans (hF j)) (fun j => ((up_c (nn rfl)).trans ((up_c (nn rfl)).trans ((hF_1196 43 j (fun h => absurd h.1 (nn rfl))).trans ((hF_1191 43 j (fun h => absurd h.1 (nn rfl))).trans ((hF_1181 43 j (fun h => absurd h.1 (nn rfl))).trans (hF_1176 43 j (fun h => absurd h.1 (nn rfl)))))))).trans (hH j)) hU (rt_i1 ⟨by first | (clear ha2 hq0 hq1 hq2 hq3 hq4 hq5 hq8 h_1 h_2 h_3 h_4 h_5 h_6 h_7 h_8 h_9 h_10 h_11 h_46 h_65 h_66 h_70 h_75 h_76 h_81 h_1031 h_1037 h_1157 h_1158 h_1159 h_1160 h_1161 h_1162 h_1163 h_1164 h_1165 h_1166 h_1167 h_1168 h_1169 h_1170 h_1171 h_1173 h_1186 h_1188 hq6 hq7 h_12 h_21 h_37 h_1172 h_1184; omega) | omega, by first | (clear ha2 hq0 hq1 hq2 hq3 hq4 hq5 hq8 h_1 h_2 h_3 h_4 h_5 h_6 h_7 h_8 h_9 h_10 h_11 h_46 h_65 h_66 h_70 h_75 h_76 h_81 h_1031 h_1037 h_1157 h_1158 h_1159 h_1160 h_1161 h_1162 h_1163 h_1164 h_1165 h_1166 h_1167 h_1168 h_1169 h_1170 h_1171 h_1173 h_1186 h_1188 hq6 hq7 h_12 h_21 h_37 h_1172 h_1184; omega) | omega, by first | (clear ha2 hq0 hq1 hq2 hq3 hq4 hq5 hq8 h_1 h_2 h_3 h_4 h_5 h_6 h_7 h_8 h_9 h_10 h_11 h_46 h_65 h_66 h_70 h_75 h_76 h_81 h_1031 h_1037 h_1157 h_1158 h_1159 h_1160 h_1161 h_1162 h_1163 h_1164 h_1165 h_1166 h_1167 h_1168 h_1169 h_1170 h_1171 h_1173 h_1186 hq6 hq7 h_12 h_21 h_37 h_1172 h_1184; omega) | omega, by first | (clear ha2 hq0 hq2 hq3 hq4 hq5 hq8 h_1 h_2 h_3 h_4 h_5 h_6 h_7 h_8 h_9 h_10 h_11 h_46 h_65 h_66 h_70 h_75 h_76 h_81 h_1031 h_1037 h_1157 h_1158 h_1159 h_1160 h_1161 h_1162 h_1163 h_1164 h_1165 h_1166 h_1167 h_1168 h_1169 h_1170 h_1171 h_1173 h_1186 h_1188 hq6 hq7 h_12 h_21 h_37 h_1172 h_1184; omega) | omega⟩) hG_74 (fun c_1220 hI_1221 hF_1222 hR_1224 h_1225 h_1226 => ?_))
            refine bk_inl ?_
            have h_1227 := ir_1_2 hI_72
            refine q_aload_n rfl rfl ?_
            have h_1228 := ir_41_5 hI_1221
            have h_1229 := ir_1_5 hI_72
            have h_1230 := ir_41_4 hI_1221
            have h_1231 := ir_41_6 hI_1221
            have h_1232 := rt_ok hR_1224 (by omega)
            have hro_hR_1224 := rt_ok hR_1224 (by omega)
            have kn_1233 : Hid (c_71 1 1 = e1) := (hF_73 1 1 (fun q => q.elim (fun h => absurd h.2 (ni rfl)) (fun q => q.elim (fun h => absurd h.2 (ni rfl)) (fun h => absurd h.2 (ni rfl))))).trans (hid kn_1208)
            have kn_1234 : Hid (c_1220 41 3 = e1) := (hF_1222 41 3 (fun q => q.elim (fun h => absurd h.2 (ni rfl)) (fun q => q.elim (fun h => absurd h.2 (ni rfl)) (fun h => absurd h.2 (ni rfl))))).trans ((up_n (by decide)).trans ((up_n (by decide)).trans (hid kn_1209)))
            have kn_1235 : Hid (c_18 (A + 7) 5 = n0) := (hF_20 (A + 7) 5 (fun h => absurd h.1 (np hA rfl rfl))).trans (hg_n0)
            have kn_1236 : Hid (c_24 (A + 7) 5 = n0) := (hF_26 (A + 7) 5 (fun h => absurd h.1 (np hA rfl rfl))).trans (hid kn_1235)
            have kn_1237 : Hid (c_34 (A + 7) 5 = n0) := (hF_36 (A + 7) 5 (fun h => absurd h.1 (np hA rfl rfl))).trans (hid kn_1236)
            have kn_1238 : Hid (c_62 (A + 7) 5 = n0) := (hF_64 (A + 7) 5 (fun q => q.elim (fun h => absurd h.1 (np hA rfl rfl)) (fun q => q.elim (fun h => absurd h.1 (np hA rfl rfl)) (fun h => absurd h.1 (np hA rfl rfl))))).trans (hid kn_1237)
            have kn_1239 : Hid (c_71 (A + 7) 5 = n0) := (hF_73 (A + 7) 5 (fun q => q.elim (fun h => absurd h.1 (np hA rfl rfl)) (fun q => q.elim (fun h => absurd h.1 (np hA rfl rfl)) (fun h => absurd h.1 (np hA rfl rfl))))).trans (hid kn_1238)
            have kn_1240 : Hid (c_1174 41 29 = n0) := (hF_1176 41 29 (fun h => absurd h.2 (ni rfl))).trans (hr_n0)
            have kn_1241 : Hid (c_1179 41 29 = n0) := (hF_1181 41 29 (fun h => absurd h.2 (ni rfl))).trans (hid kn_1240)
            have kn_1242 : Hid (c_1189 41 29 = n0) := (hF_1191 41 29 (fun h => absurd h.2 (ni rfl))).trans (hid kn_1241)
            have kn_1243 : Hid (c_1194 41 29 = n0) := (hF_1196 41 29 (fun h => absurd h.2 (ni rfl))).trans (hid kn_1242)
            have kn_1244 : Hid (c_1220 41 29 = n0) := (hF_1222 41 29 (fun q => q.elim (fun h => absurd h.2 (ni rfl)) (fun q => q.elim (fun h => absurd h.2 (ni rfl)) (fun h => absurd h.2 (ni rfl))))).trans ((up_n (by decide)).trans ((up_n (by decide)).trans (hid kn_1243)))
            have kn_1245 : Hid (c_1220 41 7 = o0 + 1) := (hF_1222 41 7 (fun q => q.elim (fun h => absurd h.2 (ni rfl)) (fun q => q.elim (fun h => absurd h.2 (ni rfl)) (fun h => absurd h.2 (ni rfl))))).trans (up_e rfl)
            have hA_1246 : Ce n0 (c_71 (A + 9)) (c_1220 50) (c_1220 51) := ce_fr hr0 (fun j => (hF_73 (A + 9) j (fun q => q.elim (fun h => absurd h.1 (np hA rfl rfl)) (fun q => q.elim (fun h => absurd h.1 (np hA rfl rfl)) (fun h => absurd h.1 (np hA rfl rfl))))).trans ((hF_64 (A + 9) j (fun q => q.elim (fun h => absurd h.1 (np hA rfl rfl)) (fun q => q.elim (fun h => absurd h.1 (np hA rfl rfl)) (fun h => absurd h.1 (np hA rfl rfl))))).trans ((hF_36 (A + 9) j (fun h => absurd h.1 (np hA rfl rfl))).trans ((hF_26 (A + 9) j (fun h => absurd h.1 (np hA rfl rfl))).trans (hF_20 (A + 9) j (fun h => absurd h.1 (np hA rfl rfl))))))) (fun j => (hF_1222 50 j (fun q => q.elim (fun h => absurd h.1 (nn rfl)) (fun q => q.elim (fun h => absurd h.1 (nn rfl)) (fun h => absurd h.1 (nn rfl))))).trans ((up_c (nn rfl)).trans ((up_c (nn rfl)).trans ((hF_1196 50 j (fun h => absurd h.1 (nn rfl))).trans ((hF_1191 50 j (fun h => absurd h.1 (nn rfl))).trans ((hF_1181 50 j (fun h => absurd h.1 (nn rfl))).trans (hF_1176 50 j (fun h => absurd h.1 (nn rfl))))))))) (fun j => (hF_1222 51 j (fun q => q.elim (fun h => absurd h.1 (nn rfl)) (fun q => q.elim (fun h => absurd h.1 (nn rfl)) (fun h => absurd h.1 (nn rfl))))).trans ((up_c (nn rfl)).trans ((up_c (nn rfl)).trans ((hF_1196 51 j (fun h => absurd h.1 (nn rfl))).trans ((hF_1191 51 j (fun h => absurd h.1 (nn rfl))).trans ((hF_1181 51 j (fun h => absurd h.1 (nn rfl))).trans (hF_1176 51 j (fun h => absurd h.1 (nn rfl)))))))))
            refine v_cv rfl rfl rfl rfl (by decide) ⟨⟨rfl, rfl⟩, by decide, rfl⟩ (Nat.le_of_ble_eq_true rfl) (Nat.le_of_ble_eq_true rfl) (H13 (m := c_71) (e1 := e1) (f0 := c_71 1 4) (g0 := c_71 1 5) (p0 := c_71 1 2) (n0 := n0) (o0 := o0 + 1) (by omega) (by omega) hI_1221 hI_72 hI_78 (show 0 ≤ a2 + 1 ∧ a2 + 1 ≤ 6 from ⟨by first | exact rgp_l ha2.1 (by decide) | omega, by first | (clear ha2 hq0 hq1 hq2 hq3 hq4 hq5 hq8 h_1 h_2 h_3 h_4 h_5 h_6 h_7 h_8 h_9 h_10 h_11 h_46 h_65 h_66 h_75 h_76 h_81 h_1031 h_1037 h_1157 h_1158 h_1159 h_1160 h_1161 h_1162 h_1163 h_1164 h_1165 h_1166 h_1167 h_1168 h_1169 h_1170 h_1171 h_1173 h_1186 h_1188 h_1227 h_1228 h_1229 h_1230 h_1231 h_1232 hq6 hq7 h_12 h_21 h_37 h_1172 h_1184 h_1225 h_1226; omega) | omega⟩) (by first | (clear ha2 hq0 hq1 hq2 hq3 hq4 hq5 hq8 h_1 h_2 h_3 h_4 h_5 h_6 h_7 h_8 h_9 h_10 h_11 h_46 h_65 h_66 h_70 h_81 h_1031 h_1037 h_1157 h_1158 h_1159 h_1160 h_1161 h_1162 h_1163 h_1164 h_1165 h_1166 h_1167 h_1168 h_1169 h_1170 h_1171 h_1173 h_1186 h_1188 h_1227 h_1228 h_1229 h_1230 h_1231 h_1232 hq6 hq7 h_12 h_21 h_37 h_1172 h_1184 h_1225 h_1226; omega) | omega) (by first | (clear ha2 hq0 hq1 hq2 hq3 hq4 hq5 hq8 h_1 h_2 h_3 h_4 h_5 h_6 h_7 h_8 h_9 h_10 h_11 h_46 h_65 h_66 h_70 h_75 h_76 h_81 h_1031 h_1037 h_1157 h_1158 h_1159 h_1160 h_1161 h_1162 h_1163 h_1164 h_1165 h_1166 h_1167 h_1168 h_1169 h_1170 h_1171 h_1173 h_1186 h_1188 h_1227 h_1228 h_1230 h_1231 hq6 hq7 h_12 h_21 h_37 h_1172 h_1184 h_1225 h_1226; omega) | omega) (by first | (clear ha2 hq0 hq1 hq3 hq4 hq5 hq8 h_1 h_2 h_3 h_4 h_5 h_6 h_7 h_8 h_9 h_10 h_11 h_46 h_65 h_66 h_70 h_75 h_76 h_81 h_1031 h_1037 h_1157 h_1158 h_1159 h_1160 h_1161 h_1162 h_1163 h_1164 h_1165 h_1166 h_1167 h_1168 h_1169 h_1170 h_1171 h_1173 h_1186 h_1188 h_1227 h_1228 h_1229 h_1230 h_1231 h_1232 hq6 hq7 h_12 h_21 h_37 h_1172 h_1184 h_1225 h_1226; omega) | omega) (by first | (clear ha2 hq0 hq1 hq2 hq8 h_3 h_4 h_8 h_9 h_11 h_65 h_66 h_70 h_81 h_1031 h_1037 h_1157 h_1158 h_1159 h_1160 h_1161 h_1162 h_1163 h_1164 h_1165 h_1166 h_1167 h_1168 h_1169 h_1170 h_1171 h_1173 h_1186 h_1231 h_1184; omega) | omega) (by first | (clear ha2 hq0 hq1 hq2 hq3 hq8 h_3 h_4 h_5 h_6 h_7 h_8 h_9 h_11 h_65 h_66 h_70 h_75 h_76 h_81 h_1031 h_1037 h_1157 h_1158 h_1159 h_1160 h_1161 h_1162 h_1163 h_1164 h_1165 h_1166 h_1167 h_1168 h_1169 h_1170 h_1171 h_1173 h_1186 h_1188 h_1228 h_1229 h_1230 h_1231 h_1184 h_1226; omega) | omega) (by first | (clear ha2 hq0 hq1 hq2 hq3 hq4 hq8 h_1 h_2 h_3 h_4 h_5 h_6 h_7 h_8 h_9 h_10 h_11 h_46 h_65 h_66 h_70 h_75 h_76 h_81 h_1031 h_1037 h_1157 h_1158 h_1159 h_1160 h_1161 h_1162 h_1163 h_1164 h_1165 h_1166 h_1167 h_1168 h_1169 h_1170 h_1171 h_1173 h_1186 h_1188 h_1227 h_1228 h_1229 h_1230 h_1231 h_1232 hq6 hq7 h_12 h_21 h_37 h_1172 h_1184 h_1225 h_1226; omega) | omega) ((hid kn_1233)) ((hid kn_1234)) (rfl) (rfl) (rfl) ((hid kn_1239)) ((hid kn_1244)) ((hid kn_1245)) (fun j => ((hF_73 2 j (fun q => q.elim (fun h => absurd h.1 (nn rfl)) (fun q => q.elim (fun h => absurd h.1 (nn rfl)) (fun h => absurd h.1 (nn rfl))))).trans ((hF_64 2 j (fun q => q.elim (fun h => absurd h.1 (nn rfl)) (fun q => q.elim (fun h => absurd h.1 (nn rfl)) (fun h => absurd h.1 (nn rfl))))).trans ((hF_36 2 j (fun h => absurd h.1 (nn rfl))).trans ((hF_26 2 j (fun h => absurd h.1 (nn rfl))).trans (hF_20 2 j (fun h => absurd h.1 (nn rfl))))))).trans (hF j)) (fun j => ((hF_1222 43 j (fun q => q.elim (fun h => absurd h.1 (nn rfl)) (fun q => q.elim (fun h => absurd h.1 (nn rfl)) (fun h => absurd h.1 (nn rfl))))).trans ((up_c (nn rfl)).trans ((up_c (nn rfl)).trans ((hF_1196 43 j (fun h => absurd h.1 (nn rfl))).trans ((hF_1191 43 j (fun h => absurd h.1 (nn rfl))).trans ((hF_1181 43 j (fun h => absurd h.1 (nn rfl))).trans (hF_1176 43 j (fun h => absurd h.1 (nn rfl))))))))).trans (hH j)) hU hR_1224 (ce_le hA_1246 (by omega)) hG_80 (fun c_1247 hI_1248 hF_1249 hR_1251 h_1252 h_1253 hA_1254 => ?_))
            refine bk_inl ?_
            have h_1255 := ir_41_29 hI_1248
            have h_1256 := ir_p7_5 hI_78 hA
            have h_1257 := ir_1_2 hI_78
            have h_1258 := ir_41_7 hI_1248
            refine q_aload_n rfl rfl ?_
            refine v_bip rfl (by decide) ?_
            have h_1259 := ir_41_5 hI_1248
            have h_1260 := ir_41_4 hI_1248
            have h_1261 := ir_41_6 hI_1248
            have h_1262 := rt_bad hR_1251 (by omega)
            have hrb_hR_1251 := rt_bad hR_1251 (by omega)
            refine v_cv rfl rfl rfl rfl (by decide) ⟨⟨rfl, rfl⟩, by decide, rfl⟩ (Nat.le_of_ble_eq_true rfl) (Nat.le_of_ble_eq_true rfl) ?_
            refine q_aload_n rfl rfl ?_
            refine v_cv rfl rfl rfl rfl (by decide) ⟨⟨rfl, rfl⟩, by decide, rfl⟩ (Nat.le_of_ble_eq_true rfl) (Nat.le_of_ble_eq_true rfl) ?_
            refine q_aload_n rfl rfl ?_
            refine v_gi (z := 5) (v := c_77 1 5) rfl rfl rfl (by decide) rfl rfl hrb_hR_1251.2.1 ?_
            refine q_iconst rfl ?_
            refine v_ic_ne_t (t := 12) rfl (by decide) ⟨by first | (clear ha2 hq0 hq1 hq2 hq3 hq4 hq5 hq8 h_1 h_2 h_3 h_4 h_5 h_6 h_7 h_8 h_9 h_10 h_11 h_46 h_65 h_66 h_70 h_75 h_76 h_81 h_1031 h_1037 h_1157 h_1158 h_1159 h_1160 h_1161 h_1162 h_1163 h_1164 h_1165 h_1166 h_1167 h_1168 h_1169 h_1170 h_1171 h_1173 h_1186 h_1188 h_1227 h_1228 h_1229 h_1230 h_1231 h_1232 h_1255 h_1256 h_1257 h_1258 h_1253 h_1259 h_1260 h_1261 hq6 hq7 h_12 h_21 h_37 h_1172 h_1184 h_1225 h_1226 h_1252; omega) | omega, ⟨(Int.le_trans (by decide) h_1031.1), (Int.le_trans h_1031.2 (by decide))⟩, by decide, by decide⟩ ?_
            refine q_iconst rfl ?_
            refine v_zret rfl rfl (by decide) ?_
            refine bk_inl ?_
            refine v_if_eq_t (t := 24) rfl (by decide) (by decide) ?_
            refine q_aload_n rfl rfl ?_
            refine v_cv rfl rfl rfl rfl (by decide) ⟨⟨rfl, rfl⟩, by decide, rfl⟩ (Nat.le_of_ble_eq_true rfl) (Nat.le_of_ble_eq_true rfl) ?_
            refine q_aload_n rfl rfl ?_
            refine v_gi (z := 5) (v := c_77 1 5) rfl rfl rfl (by decide) rfl rfl hrb_hR_1251.2.1 ?_
            refine q_iconst rfl ?_
            refine v_ic_ne_t (t := 12) rfl (by decide) ⟨by first | (clear ha2 hq0 hq1 hq2 hq3 hq4 hq5 hq8 h_1 h_2 h_3 h_4 h_5 h_6 h_7 h_8 h_9 h_10 h_11 h_46 h_65 h_66 h_70 h_75 h_76 h_81 h_1031 h_1037 h_1157 h_1158 h_1159 h_1160 h_1161 h_1162 h_1163 h_1164 h_1165 h_1166 h_1167 h_1168 h_1169 h_1170 h_1171 h_1173 h_1186 h_1188 h_1227 h_1228 h_1229 h_1230 h_1231 h_1232 h_1255 h_1256 h_1257 h_1258 h_1253 h_1259 h_1260 h_1261 hq6 hq7 h_12 h_21 h_37 h_1172 h_1184 h_1225 h_1226 h_1252; omega) | omega, ⟨(Int.le_trans (by decide) h_1031.1), (Int.le_trans h_1031.2 (by decide))⟩, by decide, by decide⟩ ?_
            refine q_iconst rfl ?_
            refine v_zret rfl rfl (by decide) ?_
            refine bk_inl ?_
            refine v_if_eq_t (t := 41) rfl (by decide) (by decide) ?_
            refine q_vret rfl rfl ?_
            refine bk_inl ?_
            refine q_aload_n rfl rfl ?_
            have h_1263 : ¬ c_1247 41 5 = -1 := by rw [show c_1247 41 5 = c_77 1 5 from hrb_hR_1251.2.1]; omega
            refine v_cv rfl rfl rfl rfl (by decide) ⟨⟨rfl, rfl⟩, by decide, rfl⟩ (Nat.le_of_ble_eq_true rfl) (Nat.le_of_ble_eq_true rfl) (n_174 hI_1248 (by omega) ?_)
            refine bk_inl ?_
            refine q_aload_n rfl rfl ?_
            refine v_bip rfl (by decide) ?_
            refine v_cv rfl rfl rfl rfl (by decide) ⟨⟨rfl, rfl⟩, by decide, rfl⟩ (Nat.le_of_ble_eq_true rfl) (Nat.le_of_ble_eq_true rfl) ?_
            refine q_aload_n rfl rfl ?_
            refine v_cv rfl rfl rfl rfl (by decide) ⟨⟨rfl, rfl⟩, by decide, rfl⟩ (Nat.le_of_ble_eq_true rfl) (Nat.le_of_ble_eq_true rfl) ?_
            refine q_aload_n rfl rfl ?_
            refine v_gi (z := 5) (v := c_77 1 5) rfl rfl rfl (by decide) rfl rfl hrb_hR_1251.2.1 ?_
            refine q_iconst rfl ?_
            refine v_ic_ne_t (t := 12) rfl (by decide) ⟨by first | (clear ha2 hq0 hq1 hq2 hq3 hq4 hq5 hq8 h_1 h_2 h_3 h_4 h_5 h_6 h_7 h_8 h_9 h_10 h_11 h_46 h_65 h_66 h_70 h_75 h_76 h_81 h_1031 h_1037 h_1157 h_1158 h_1159 h_1160 h_1161 h_1162 h_1163 h_1164 h_1165 h_1166 h_1167 h_1168 h_1169 h_1170 h_1171 h_1173 h_1186 h_1188 h_1227 h_1228 h_1229 h_1230 h_1231 h_1232 h_1255 h_1256 h_1257 h_1258 h_1253 h_1259 h_1260 h_1261 hq6 hq7 h_12 h_21 h_37 h_1172 h_1184 h_1225 h_1226 h_1252; omega) | omega, ⟨(Int.le_trans (by decide) h_1031.1), (Int.le_trans h_1031.2 (by decide))⟩, by decide, by decide⟩ ?_
            refine q_iconst rfl ?_
            refine v_zret rfl rfl (by decide) ?_
            refine bk_inl ?_
            refine v_if_eq_t (t := 24) rfl (by decide) (by decide) ?_
            refine q_aload_n rfl rfl ?_
            refine v_cv rfl rfl rfl rfl (by decide) ⟨⟨rfl, rfl⟩, by decide, rfl⟩ (Nat.le_of_ble_eq_true rfl) (Nat.le_of_ble_eq_true rfl) ?_
            refine q_aload_n rfl rfl ?_
            refine v_gi (z := 5) (v := c_77 1 5) rfl rfl rfl (by decide) rfl rfl hrb_hR_1251.2.1 ?_
            refine q_iconst rfl ?_
            refine v_ic_ne_t (t := 12) rfl (by decide) ⟨by first | (clear ha2 hq0 hq1 hq2 hq3 hq4 hq5 hq8 h_1 h_2 h_3 h_4 h_5 h_6 h_7 h_8 h_9 h_10 h_11 h_46 h_65 h_66 h_70 h_75 h_76 h_81 h_1031 h_1037 h_1157 h_1158 h_1159 h_1160 h_1161 h_1162 h_1163 h_1164 h_1165 h_1166 h_1167 h_1168 h_1169 h_1170 h_1171 h_1173 h_1186 h_1188 h_1227 h_1228 h_1229 h_1230 h_1231 h_1232 h_1255 h_1256 h_1257 h_1258 h_1253 h_1259 h_1260 h_1261 hq6 hq7 h_12 h_21 h_37 h_1172 h_1184 h_1225 h_1226 h_1252; omega) | omega, ⟨(Int.le_trans (by decide) h_1031.1), (Int.le_trans h_1031.2 (by decide))⟩, by decide, by decide⟩ ?_
            refine q_iconst rfl ?_
            refine v_zret rfl rfl (by decide) ?_
            refine bk_inl ?_
            refine v_if_eq_t (t := 41) rfl (by decide) (by decide) ?_
            refine q_vret rfl rfl ?_
            refine bk_inl ?_
            refine q_aload_n rfl rfl ?_
            refine q_dup rfl rfl ?_
            refine v_gi (z := 7) (v := c_1247 41 7) rfl rfl rfl (by decide) rfl rfl rfl ?_
            refine q_iconst rfl ?_
            refine v_isub (v := c_1247 41 7 - 1) rfl rfl ?_
            refine v_pi (z := 7) rfl rfl rfl (by decide) rfl rfl rfl (by decide) ?_
            refine q_aload_n rfl rfl ?_
            refine q_iload_n rfl rfl ?_
            refine q_iconst rfl ?_
            refine v_cv rfl rfl rfl rfl (by decide) ⟨⟨rfl, rfl⟩, by decide, rfl⟩ (Nat.le_of_ble_eq_true rfl) (Nat.le_of_ble_eq_true rfl) ?_
            refine q_aload_n rfl rfl ?_
            refine v_cv rfl rfl rfl rfl (by decide) ⟨⟨rfl, rfl⟩, by decide, rfl⟩ (Nat.le_of_ble_eq_true rfl) (Nat.le_of_ble_eq_true rfl) ?_
            refine q_aload_n rfl rfl ?_
            refine v_gi (z := 5) (v := c_77 1 5) rfl rfl rfl (by decide) rfl rfl (((up_n (by decide))).trans (hrb_hR_1251.2.1)) ?_
            refine q_iconst rfl ?_
            refine v_ic_ne_t (t := 12) rfl (by decide) ⟨by first | (clear ha2 hq0 hq1 hq2 hq3 hq4 hq5 hq8 h_1 h_2 h_3 h_4 h_5 h_6 h_7 h_8 h_9 h_10 h_11 h_46 h_65 h_66 h_70 h_75 h_76 h_81 h_1031 h_1037 h_1157 h_1158 h_1159 h_1160 h_1161 h_1162 h_1163 h_1164 h_1165 h_1166 h_1167 h_1168 h_1169 h_1170 h_1171 h_1173 h_1186 h_1188 h_1227 h_1228 h_1229 h_1230 h_1231 h_1232 h_1255 h_1256 h_1257 h_1258 h_1253 h_1259 h_1260 h_1261 hq6 hq7 h_12 h_21 h_37 h_1172 h_1184 h_1225 h_1226 h_1252; omega) | omega, ⟨(Int.le_trans (by decide) h_1031.1), (Int.le_trans h_1031.2 (by decide))⟩, by decide, by decide⟩ ?_
            refine q_iconst rfl ?_
            refine v_zret rfl rfl (by decide) ?_
            refine bk_inl ?_
            refine v_if_ne_f (t := 8) rfl (by decide) (by decide) ?_
            refine q_vret rfl rfl ?_
            refine bk_inl ?_
            refine q_vret rfl rfl ?_
            refine bk_inl ?_
            refine q_goto (t := 154) rfl (by decide) ?_
            refine q_vret rfl rfl ?_
            have hI_1264 := iw_41_7 (v := c_1247 41 7 - 1) hI_1248 ⟨by first | (clear hq0 hq1 hq2 hq3 hq4 hq5 hq8 h_1 h_2 h_3 h_4 h_5 h_6 h_7 h_8 h_9 h_10 h_11 h_46 h_65 h_66 h_70 h_75 h_76 h_81 h_1031 h_1037 h_1157 h_1158 h_1159 h_1160 h_1161 h_1162 h_1163 h_1164 h_1165 h_1166 h_1167 h_1168 h_1169 h_1170 h_1171 h_1173 h_1186 h_1188 h_1227 h_1228 h_1229 h_1230 h_1231 h_1232 h_1255 h_1256 h_1257 h_1258 h_1259 h_1260 h_1261 h_1262 hq6 hq7 h_12 h_21 h_37 h_1172 h_1184 h_1225 h_1226 h_1252; omega) | omega, by first | exact rgm_h h_1258.2 (by decide) | omega⟩
            have h_1265 : (up c_1247 41 7 (c_1247 41 7 - 1)) 41 5 = c_77 1 5 := (((up_n (by decide))).trans (hrb_hR_1251.2.1))
            have h_1266 : (up c_1247 41 7 (c_1247 41 7 - 1)) 41 4 = c_1247 41 4 := (up_n (by decide))
            have h_1267 : (up c_1247 41 7 (c_1247 41 7 - 1)) 41 6 = c_77 1 4 := (((up_n (by decide))).trans (hrb_hR_1251.2.2.2))
            have h_1268 : (up c_1247 41 7 (c_1247 41 7 - 1)) 41 29 = c_1247 41 29 := (up_n (by decide))
            have h_1269 : (up c_1247 41 7 (c_1247 41 7 - 1)) 41 7 = c_1247 41 7 - 1 := (up_e rfl)
            have h_1270 : (up c_1247 41 7 (c_1247 41 7 - 1)) 41 29 = c_1247 41 29 := (up_n (by decide))
            exact K (up c_1247 41 7 (c_1247 41 7 - 1))  hI_1264 (fun a j hm => (up_b (Decidable.or_iff_not_imp_left.mpr (fun h1 h2 => hm (Or.inr (Or.inr (Or.inr (Or.inl ⟨Decidable.not_not.mp h1, h2⟩))))))).trans ((hF_1249 a j (fun q => q.elim (fun h => hm (Or.inl h)) (fun q => q.elim (fun h => hm (Or.inr (Or.inl h))) (fun q => q.elim (fun h => hm (Or.inr (Or.inr (Or.inl h)))) (fun q => q.elim (fun h => hm (Or.inr (Or.inr (Or.inr (Or.inl h))))) (fun q => q.elim (fun h => hm (Or.inr (Or.inr (Or.inr (Or.inr (Or.inl h)))))) (fun q => q.elim (fun h => hm (Or.inr (Or.inr (Or.inr (Or.inr (Or.inr (Or.inl h))))))) (fun h => hm (Or.inr (Or.inr (Or.inr (Or.inr (Or.inr (Or.inr h)))))))))))))).trans ((hF_1222 a j (fun q => q.elim (fun h => hm (Or.inl h)) (fun q => q.elim (fun h => hm (Or.inr (Or.inl h))) (fun h => hm (Or.inr (Or.inr (Or.inl h))))))).trans ((up_b (Decidable.or_iff_not_imp_left.mpr (fun h1 h2 => hm (Or.inr (Or.inr (Or.inr (Or.inl ⟨Decidable.not_not.mp h1, h2⟩))))))).trans ((up_b (Decidable.or_iff_not_imp_left.mpr (fun h1 h2 => hm (Or.inl ⟨Decidable.not_not.mp h1, h2⟩)))).trans ((hF_1196 a j (fun h => hm (Or.inl h))).trans ((hF_1191 a j (fun h => hm (Or.inl h))).trans ((hF_1181 a j (fun h => hm (Or.inl h))).trans (hF_1176 a j (fun h => hm (Or.inl h))))))))))) (rt_i2 ⟨⟨by first | (clear ha2 hq0 hq1 hq2 hq3 hq4 hq5 hq8 h_1 h_2 h_3 h_4 h_5 h_6 h_7 h_8 h_9 h_10 h_11 h_46 h_65 h_66 h_70 h_75 h_76 h_81 h_1031 h_1037 h_1157 h_1159 h_1160 h_1161 h_1162 h_1163 h_1164 h_1165 h_1166 h_1167 h_1168 h_1169 h_1170 h_1171 h_1173 h_1186 h_1188 h_1227 h_1228 h_1229 h_1230 h_1231 h_1232 h_1255 h_1256 h_1257 h_1258 h_1253 h_1259 h_1260 h_1261 hq6 hq7 h_12 h_21 h_37 h_1172 h_1184 h_1225 h_1226 h_1252; omega) | omega, by first | (clear ha2 hq0 hq1 hq2 hq3 hq4 hq5 hq8 h_1 h_2 h_3 h_4 h_5 h_6 h_7 h_8 h_9 h_10 h_11 h_46 h_65 h_66 h_70 h_75 h_76 h_81 h_1031 h_1037 h_1158 h_1159 h_1160 h_1161 h_1162 h_1163 h_1164 h_1165 h_1166 h_1167 h_1168 h_1169 h_1170 h_1171 h_1173 h_1186 h_1188 h_1227 h_1228 h_1229 h_1230 h_1231 h_1232 h_1255 h_1256 h_1257 h_1258 h_1253 h_1259 h_1260 h_1261 h_1262 hq6 hq7 h_12 h_21 h_37 h_1172 h_1184 h_1225 h_1226 h_1252; omega) | omega⟩, by first | (clear ha2 hq0 hq1 hq2 hq3 hq4 hq5 hq8 h_1 h_2 h_3 h_4 h_5 h_6 h_7 h_8 h_9 h_10 h_11 h_46 h_65 h_66 h_70 h_75 h_76 h_81 h_1031 h_1037 h_1157 h_1158 h_1159 h_1160 h_1161 h_1162 h_1164 h_1165 h_1166 h_1167 h_1168 h_1169 h_1170 h_1171 h_1173 h_1186 h_1188 h_1227 h_1228 h_1229 h_1230 h_1231 h_1232 h_1255 h_1256 h_1257 h_1258 h_1253 h_1259 h_1260 h_1261 h_1262 hq6 hq7 h_12 h_21 h_37 h_1172 h_1184 h_1225 h_1226 h_1252; omega) | omega, by first | (clear ha2 hq0 hq1 hq2 hq3 hq4 hq5 hq8 h_1 h_2 h_3 h_4 h_5 h_6 h_7 h_8 h_9 h_10 h_11 h_46 h_65 h_66 h_70 h_75 h_76 h_81 h_1031 h_1037 h_1157 h_1158 h_1159 h_1160 h_1161 h_1162 h_1164 h_1165 h_1166 h_1167 h_1168 h_1169 h_1170 h_1171 h_1173 h_1186 h_1188 h_1227 h_1228 h_1229 h_1230 h_1231 h_1232 h_1255 h_1256 h_1257 h_1258 h_1253 h_1259 h_1260 h_1261 hq6 hq7 h_12 h_21 h_37 h_1172 h_1184 h_1225 h_1226 h_1252; omega) | omega, by first | (clear ha2 hq0 hq1 hq2 hq3 hq4 hq5 hq8 h_1 h_2 h_3 h_4 h_5 h_6 h_7 h_8 h_9 h_10 h_11 h_46 h_65 h_66 h_70 h_75 h_76 h_81 h_1031 h_1037 h_1157 h_1159 h_1160 h_1161 h_1162 h_1163 h_1164 h_1165 h_1166 h_1167 h_1168 h_1169 h_1170 h_1171 h_1173 h_1186 h_1188 h_1227 h_1228 h_1229 h_1230 h_1231 h_1232 h_1255 h_1256 h_1257 h_1258 h_1253 h_1259 h_1260 h_1261 h_1262 hq6 hq7 h_12 h_21 h_37 h_1172 h_1184 h_1225 h_1226 h_1252; omega) | omega⟩) (Or.inr (Or.inl (by first | (clear ha2 hq0 hq1 hq2 hq3 hq4 hq5 hq8 h_1 h_2 h_3 h_4 h_5 h_6 h_7 h_8 h_9 h_10 h_11 h_46 h_65 h_66 h_70 h_75 h_76 h_81 h_1031 h_1037 h_1157 h_1159 h_1160 h_1161 h_1162 h_1163 h_1164 h_1165 h_1166 h_1167 h_1168 h_1169 h_1170 h_1171 h_1173 h_1186 h_1188 h_1227 h_1228 h_1229 h_1230 h_1231 h_1232 h_1255 h_1256 h_1257 h_1258 h_1253 h_1259 h_1260 h_1261 hq6 hq7 h_12 h_21 h_37 h_1172 h_1184 h_1225 h_1226 h_1252; omega) | omega))) (by first | (clear ha2 hq0 hq1 hq2 hq3 hq4 hq5 hq8 h_1 h_2 h_3 h_4 h_5 h_6 h_7 h_8 h_9 h_10 h_11 h_46 h_65 h_66 h_70 h_75 h_76 h_81 h_1031 h_1037 h_1157 h_1158 h_1159 h_1160 h_1161 h_1162 h_1163 h_1164 h_1165 h_1166 h_1167 h_1168 h_1169 h_1170 h_1171 h_1173 h_1186 h_1188 h_1227 h_1228 h_1229 h_1230 h_1231 h_1232 h_1255 h_1256 h_1257 h_1258 h_1259 h_1260 h_1261 h_1262 hq6 hq7 h_12 h_21 h_37 h_1172 h_1184 h_1225 h_1226 h_1252; omega) | omega) (fun hz => absurd hz (by omega))
    · as_aux_lemma =>
        skip
        have h_1271 := ir_1_5 hI_72
        refine v_cv rfl rfl rfl (ck_p7 hA) (a68 hA rfl) ⟨⟨rfl, rfl⟩, by decide, rfl⟩ (Nat.le_of_ble_eq_true rfl) (Nat.le_of_ble_eq_true rfl) (b_13 (a2 := a2 + 1) (f9 := c_71 1 4) (p9 := c_71 1 5) hI_72 hA (show 0 ≤ a2 + 1 ∧ a2 + 1 ≤ 6 from ⟨by first | exact rgp_l ha2.1 (by decide) | omega, by first | (clear ha2 hq0 hq1 hq2 hq3 hq4 hq5 hq8 h_1 h_2 h_3 h_4 h_5 h_6 h_7 h_8 h_9 h_10 h_11 h_46 h_65 h_66 h_75 hq6 hq7 h_12 h_21 h_37; omega) | omega⟩) (by omega) (rfl) (rfl) (fun c_1272 hI_1273 hF_1274 hz_1275 hz_1276 => ?_))
        refine bk_inl ?_
        refine q_aload_n rfl rfl ?_
        refine q_ldc_s rfl rfl rfl (by decide) ?_
        refine v_cv rfl rfl rfl rfl (by decide) ⟨⟨rfl, rfl⟩, by decide, rfl⟩ (Nat.le_of_ble_eq_true rfl) (Nat.le_of_ble_eq_true rfl) ?_
        refine q_aload_n rfl rfl ?_
        refine v_cv rfl rfl rfl rfl (by decide) ⟨⟨rfl, rfl⟩, by decide, rfl⟩ (Nat.le_of_ble_eq_true rfl) (Nat.le_of_ble_eq_true rfl) ?_
        refine q_aload_n rfl rfl ?_
        refine v_gi (z := 4) (v := c_71 1 4) rfl rfl rfl (by decide) rfl rfl (hz_1275) ?_
        refine v_if_ne_t (t := 11) rfl (by decide) ⟨by first | (clear ha2 hq0 hq1 hq2 hq3 hq4 hq5 hq8 h_1 h_2 h_3 h_4 h_5 h_6 h_7 h_8 h_9 h_10 h_11 h_46 h_65 h_66 h_70 h_75 h_1271 hq6 hq7 h_12 h_21 h_37; omega) | omega, ⟨(Int.le_trans (by decide) h_75.1), (Int.le_trans h_75.2 (by decide))⟩, by decide, by decide⟩ ?_
        refine q_iconst rfl ?_
        refine v_zret rfl rfl (by decide) ?_
        refine bk_inl ?_
        refine v_if_eq_t (t := 25) rfl (by decide) (by decide) ?_
        refine q_vret rfl rfl ?_
        refine bk_inl ?_
        refine q_aload_n rfl rfl ?_
        refine q_aload_n rfl rfl ?_
        refine q_iload_n rfl rfl ?_
        refine q_iconst rfl ?_
        refine v_iadd (v := a2 + 1) rfl rfl ?_
        refine v_cv rfl rfl rfl (ck_p7 hA) (a68 hA rfl) ⟨⟨rfl, rfl⟩, by decide, rfl⟩ (Nat.le_of_ble_eq_true rfl) (Nat.le_of_ble_eq_true rfl) (b_13 (a2 := a2 + 1) (f9 := c_71 1 4) (p9 := c_71 1 5) hI_1273 hA (show 0 ≤ a2 + 1 ∧ a2 + 1 ≤ 6 from ⟨by first | exact rgp_l ha2.1 (by decide) | omega, by first | (clear ha2 hq0 hq1 hq2 hq3 hq4 hq5 hq8 h_1 h_2 h_3 h_4 h_5 h_6 h_7 h_8 h_9 h_10 h_11 h_46 h_65 h_66 h_75 h_1271 hq6 hq7 h_12 h_21 h_37; omega) | omega⟩) (by omega) ((hz_1275)) ((hz_1276)) (fun c_1277 hI_1278 hF_1279 hz_1280 hz_1281 => ?_))
        refine bk_inl ?_
        refine q_aload_n rfl rfl ?_
        refine q_ldc_s rfl rfl rfl (by decide) ?_
        refine v_cv rfl rfl rfl rfl (by decide) ⟨⟨rfl, rfl⟩, by decide, rfl⟩ (Nat.le_of_ble_eq_true rfl) (Nat.le_of_ble_eq_true rfl) ?_
        refine q_aload_n rfl rfl ?_
        refine v_cv rfl rfl rfl rfl (by decide) ⟨⟨rfl, rfl⟩, by decide, rfl⟩ (Nat.le_of_ble_eq_true rfl) (Nat.le_of_ble_eq_true rfl) ?_
        refine q_aload_n rfl rfl ?_
        refine v_gi (z := 4) (v := c_71 1 4) rfl rfl rfl (by decide) rfl rfl (hz_1280) ?_
        refine v_if_ne_t (t := 11) rfl (by decide) ⟨by first | (clear ha2 hq0 hq1 hq2 hq3 hq4 hq5 hq8 h_1 h_2 h_3 h_4 h_5 h_6 h_7 h_8 h_9 h_10 h_11 h_46 h_65 h_66 h_70 h_75 h_1271 hq6 hq7 h_12 h_21 h_37; omega) | omega, ⟨(Int.le_trans (by decide) h_75.1), (Int.le_trans h_75.2 (by decide))⟩, by decide, by decide⟩ ?_
        refine q_iconst rfl ?_
        refine v_zret rfl rfl (by decide) ?_
        refine bk_inl ?_
        refine v_if_eq_t (t := 25) rfl (by decide) (by decide) ?_
        refine q_vret rfl rfl ?_
        refine bk_inl ?_
        refine q_aload_n rfl rfl ?_
        refine v_sip rfl (by decide) ?_
        refine q_iload rfl rfl ?_
        refine v_iadd (v := (wd1_0 F (nx F e1 p0) (ln F e1 (nx F e1 p0))) + 2005) rfl (by first | (clear ha2 hq0 hq1 hq2 hq3 hq4 hq5 hq8 h_1 h_2 h_3 h_4 h_5 h_6 h_7 h_8 h_9 h_10 h_11 h_46 h_65 h_66 h_70 h_75 h_1271 hq6 hq7 h_12 h_21 h_37; omega) | omega) ?_
        refine v_bip rfl (by decide) ?_
        refine v_isub (v := (wd1_0 F (nx F e1 p0) (ln F e1 (nx F e1 p0))) + 1997) rfl (by first | (clear ha2 hq0 hq1 hq2 hq3 hq4 hq5 hq8 h_1 h_2 h_3 h_4 h_5 h_6 h_7 h_8 h_9 h_10 h_11 h_46 h_65 h_66 h_70 h_75 h_1271 hq6 hq7 h_12 h_21 h_37; omega) | omega) ?_
        refine v_cv rfl rfl rfl (ck_p7 hA) (a68 hA rfl) ⟨⟨rfl, rfl⟩, by decide, rfl⟩ (Nat.le_of_ble_eq_true rfl) (Nat.le_of_ble_eq_true rfl) ?_
        refine q_aload_n rfl rfl ?_
        have h_1282 := ir_p7_5 hI_1278 hA
        refine v_gi (z := 5) (v := c_1277 (A + 7) 5) rfl rfl (ck_p7 hA) (a68 hA rfl) rfl rfl rfl ?_
        refine q_aload_n rfl rfl ?_
        refine v_gr (t := (A + 9)) rfl rfl (ck_p7 hA) (a68 hA rfl) rfl ?_
        refine v_al rfl (ck_p9 hA) (a68 hA rfl) (by decide) ?_
        by_cases h_1283 : c_1277 (A + 7) 5 ≥ 150
        · refine v_ic_ge_t (t := 32) rfl (by decide) ⟨by decide, h_1283, (Int.le_trans h_1282.2 (by decide))⟩ ?_
          refine q_vret rfl rfl ?_
          refine bk_inl ?_
          refine q_vret rfl rfl ?_
          intro hE_1284
          have hW : Wd P Q P P c_1277 = Wd P Q P P m9 := (Prod.mk.inj (Prod.mk.inj hE_1284).2).1
          have h_1285 := ir_1_4 hJ9
          have h_1286 : m9 1 4 = c_71 1 4 := wd_fv (z := 4) 4 rfl hW rfl rfl rfl rfl (by decide) (hz_1280) ⟨(Int.le_trans (by decide) h_75.1), (Int.le_trans h_75.2 (by decide))⟩ ⟨(Int.le_trans (by decide) h_1285.1), (Int.le_trans h_1285.2 (by decide))⟩
          have h_1287 := ir_1_2 hI_1278
          have h_1288 := ir_1_2 hJ9
          have h_1289 : m9 1 2 = c_1277 1 2 := wd_fv (z := 2) 2 rfl hW rfl rfl rfl rfl (by decide) rfl ⟨(Int.le_trans (by decide) h_1287.1), (Int.le_trans h_1287.2 (by decide))⟩ ⟨(Int.le_trans (by decide) h_1288.1), (Int.le_trans h_1288.2 (by decide))⟩
          have h_1290 := ir_1_5 hJ9
          have h_1291 : m9 1 5 = c_71 1 5 := wd_fv (z := 5) 5 rfl hW rfl rfl rfl rfl (by decide) (hz_1281) ⟨(Int.le_trans (by decide) h_1271.1), (Int.le_trans h_1271.2 (by decide))⟩ ⟨(Int.le_trans (by decide) h_1290.1), (Int.le_trans h_1290.2 (by decide))⟩
          have h_1292 := ir_p7_5 hJ9 hA
          have h_1293 : m9 (A + 7) 5 = c_1277 (A + 7) 5 := wd_fv (z := 5) 5 rfl hW (ck_p7 hA) (ck_p7 hA) rfl rfl (by omega) rfl ⟨(Int.le_trans (by decide) h_1282.1), (Int.le_trans h_1282.2 (by decide))⟩ ⟨(Int.le_trans (by decide) h_1292.1), (Int.le_trans h_1292.2 (by decide))⟩
          refine q_aload_n rfl rfl ?_
          refine v_cv rfl rfl rfl rfl (by decide) ⟨⟨rfl, rfl⟩, by decide, rfl⟩ (Nat.le_of_ble_eq_true rfl) (Nat.le_of_ble_eq_true rfl) ?_
          refine q_aload_n rfl rfl ?_
          have h_1294 := ir_41_5 hI
          have h_1295 := ir_41_4 hI
          have h_1296 := ir_41_6 hI
          have h_1297 := rt_ok hRt (by omega)
          have hro_hRt := rt_ok hRt (by omega)
          refine v_gi (z := 5) (v := (-1)) rfl rfl rfl (by decide) rfl rfl hro_hRt.2.1 ?_
          refine q_iconst rfl ?_
          refine v_ic_ne_f (t := 12) rfl (by decide) (by decide) ?_
          refine q_iconst rfl ?_
          refine q_goto (t := 13) rfl (by decide) ?_
          refine v_zret rfl rfl (by decide) ?_
          refine bk_inl ?_
          refine v_if_ne_t (t := 8) rfl (by decide) (by decide) ?_
          refine q_aload_n rfl rfl ?_
          have h_1298 : -2147483648 ≤ (H (nx F e1 p0)) ∧ (H (nx F e1 p0)) ≤ 2147483647 := by rw [← hH (nx F e1 p0)]; exact ir_43 hI (nx F e1 p0)
          have h_1299 := hU (nx F e1 p0) (by omega) (by omega)
          have h_1300 := hb_or (b := H) (e := e1) (r := (nx F e1 p0))
          have h_1301 := hb_bd (b := H) (e := e1) (r := (nx F e1 p0)) (lo := -2147483648) (hi := 2147483647) h_1298 (by decide)
          refine v_cv rfl rfl rfl rfl (by decide) ⟨⟨rfl, rfl⟩, by decide, rfl⟩ (Nat.le_of_ble_eq_true rfl) (Nat.le_of_ble_eq_true rfl) (f_154 (e1 := e1) (a9 := p0) (B := H) (r8 := (nx F e1 p0)) (r := (hb H e1 (nx F e1 p0))) hI ((hr_e1)) (((hro_hRt.2.2.1).trans ((hg_p0)))) (fun j => hH j) ((nx_tr hU (by first | (clear ha2 hq0 hq1 hq2 hq3 hq4 hq5 hq8 h_1 h_2 h_3 h_4 h_6 h_7 h_8 h_9 h_10 h_11 h_46 h_65 h_66 h_70 h_75 h_1271 h_1282 h_1283 h_1285 h_1286 h_1287 h_1288 h_1289 h_1290 h_1291 h_1292 h_1293 h_1294 h_1295 h_1296 h_1297 hq6 hq7 h_12 h_21 h_37; omega) | omega) (by first | (clear ha2 hq0 hq1 hq2 hq3 hq4 hq8 h_1 h_2 h_3 h_4 h_5 h_6 h_7 h_8 h_9 h_10 h_11 h_46 h_65 h_66 h_70 h_75 h_1271 h_1282 h_1283 h_1285 h_1286 h_1287 h_1288 h_1289 h_1290 h_1291 h_1292 h_1293 h_1294 h_1295 h_1296 h_1297 hq6 hq7 h_12 h_21 h_37; omega) | omega)).trans (rfl)) rfl (fun c_1302 hI_1303 hF_1304 h_1305 => ?_))
          refine bk_inl ?_
          refine v_bip rfl (by decide) ?_
          refine v_ic_ne_t (t := 45) rfl (by decide) ⟨by first | (clear ha2 hq0 hq1 hq2 hq3 hq8 h_3 h_4 h_5 h_6 h_7 h_8 h_9 h_11 h_65 h_66 h_70 h_75 h_1271 h_1282 h_1283 h_1285 h_1286 h_1287 h_1288 h_1289 h_1290 h_1291 h_1292 h_1293 h_1294 h_1295 h_1296 h_1297; omega) | omega, ⟨h_1301.1, h_1301.2⟩, by decide, by decide⟩ ?_
          refine q_aload_n rfl rfl ?_
          have kn_1306 : Hid (c_1302 41 3 = e1) := (hF_1304 41 3 (fun h => absurd h.2 (ni rfl))).trans (hr_e1)
          refine v_cv rfl rfl rfl rfl (by decide) ⟨⟨rfl, rfl⟩, by decide, rfl⟩ (Nat.le_of_ble_eq_true rfl) (Nat.le_of_ble_eq_true rfl) (f_154 (e1 := e1) (a9 := (nx F e1 p0)) (B := H) (r8 := (nx F e1 p0)) (r := (hb H e1 (nx F e1 p0))) hI_1303 ((hid kn_1306)) ((h_1305)) (fun j => (hF_1304 43 j (fun h => absurd h.1 (nn rfl))).trans (hH j)) ((nx_tr hU (by first | (clear ha2 hq0 hq1 hq2 hq3 hq4 hq5 hq8 h_1 h_2 h_3 h_4 h_6 h_7 h_8 h_9 h_11 h_46 h_65 h_66 h_70 h_75 h_1271 h_1282 h_1283 h_1285 h_1286 h_1287 h_1288 h_1289 h_1290 h_1291 h_1292 h_1293 h_1294 h_1295 h_1296 h_1297 h_1298 h_1299 h_1301 hq6 hq7 h_12 h_21 h_37 h_1300; omega) | omega) (by first | (clear ha2 hq0 hq1 hq2 hq3 hq4 hq8 h_1 h_2 h_3 h_4 h_5 h_6 h_7 h_8 h_9 h_10 h_11 h_46 h_65 h_66 h_70 h_75 h_1271 h_1282 h_1283 h_1285 h_1286 h_1287 h_1288 h_1289 h_1290 h_1291 h_1292 h_1293 h_1294 h_1295 h_1296 h_1297 h_1298 h_1299 h_1301 hq6 hq7 h_12 h_21 h_37 h_1300; omega) | omega)).trans ((nx_z (by omega)))) rfl (fun c_1307 hI_1308 hF_1309 h_1310 => ?_))
          refine bk_inl ?_
          refine q_call rfl rfl rfl rfl (f_156 (a0 := (hb H e1 (nx F e1 p0))) hI_1308 (show (-2147483648) ≤ (hb H e1 (nx F e1 p0)) ∧ (hb H e1 (nx F e1 p0)) ≤ 2147483647 from h_1301) (fun y_1311 hy_1311 h_1312 => ?_))
          refine bk_inl ?_
          refine v_if_eq_t (t := 71) rfl (by decide) (by first | (clear ha2 hq0 hq1 hq2 hq3 hq8 h_3 h_4 h_5 h_6 h_7 h_8 h_9 h_11 h_65 h_66 h_70 h_75 h_1271 h_1282 h_1283 h_1285 h_1286 h_1287 h_1288 h_1289 h_1290 h_1291 h_1292 h_1293 h_1294 h_1295 h_1296 h_1297; omega) | omega) ?_
          refine q_aload_n rfl rfl ?_
          have kn_1313 : Hid (c_1307 41 3 = e1) := (hF_1309 41 3 (fun h => absurd h.2 (ni rfl))).trans (hid kn_1306)
          have h_1314 := wv_bd (b := F) (r := (nx F e1 p0)) (l := (ln F e1 (nx F e1 p0))) (fun j h1 h2 => ⟨(ln_in (e := e1) (a := (nx F e1 p0)) h1 h2).1, (ln_in (e := e1) (a := (nx F e1 p0)) h1 h2).2.1⟩)
          have h_1315 := wr1_9 (b := F) (r := (nx F e1 p0)) (l := (ln F e1 (nx F e1 p0))) (by omega) (fun j h1 h2 => ⟨(ln_in (e := e1) (a := (nx F e1 p0)) h1 h2).1, (ln_in (e := e1) (a := (nx F e1 p0)) h1 h2).2.1⟩) (by omega)
          have h_1316 : (wv F (nx F e1 p0) (ln F e1 (nx F e1 p0))) = 441972 → (ln F e1 (nx F e1 p0)) - (nx F e1 p0) = 4 := wl_most (by omega) (fun j h1 h2 => ⟨(ln_in (e := e1) (a := (nx F e1 p0)) h1 h2).1, (ln_in (e := e1) (a := (nx F e1 p0)) h1 h2).2.1⟩)
          refine v_cv rfl rfl rfl rfl (by decide) ⟨⟨rfl, rfl⟩, by decide, rfl⟩ (Nat.le_of_ble_eq_true rfl) (Nat.le_of_ble_eq_true rfl) (f_157 (e1 := e1) (a9 := (nx F e1 p0)) (B := H) (r8 := (nx F e1 p0)) (L8 := (ln F e1 (nx F e1 p0))) (W8 := (wv F (nx F e1 p0) (ln F e1 (nx F e1 p0)))) hI_1308 ((hid kn_1313)) ((h_1310)) (fun j => ((hF_1309 43 j (fun h => absurd h.1 (nn rfl))).trans (hF_1304 43 j (fun h => absurd h.1 (nn rfl)))).trans (hH j)) ((nx_tr hU (by first | (clear ha2 hq0 hq1 hq2 hq3 hq4 hq5 hq8 h_1 h_2 h_3 h_4 h_6 h_7 h_8 h_9 h_11 h_46 h_65 h_66 h_70 h_75 h_1271 h_1282 h_1283 h_1285 h_1286 h_1287 h_1288 h_1289 h_1290 h_1291 h_1292 h_1293 h_1294 h_1295 h_1296 h_1297 h_1298 h_1299 h_1301 hq6 hq7 h_12 h_21 h_37 h_1300 h_1312; omega) | omega) (by first | (clear ha2 hq0 hq1 hq2 hq3 hq4 hq8 h_1 h_2 h_3 h_4 h_5 h_6 h_7 h_8 h_9 h_10 h_11 h_46 h_65 h_66 h_70 h_75 h_1271 h_1282 h_1283 h_1285 h_1286 h_1287 h_1288 h_1289 h_1290 h_1291 h_1292 h_1293 h_1294 h_1295 h_1296 h_1297 h_1298 h_1299 h_1301 hq6 hq7 h_12 h_21 h_37 h_1300 h_1312; omega) | omega)).trans ((nx_z (by omega)))) ((ln_tr hU (by first | (clear ha2 hq0 hq1 hq2 hq3 hq4 hq5 hq8 h_1 h_2 h_3 h_4 h_6 h_7 h_8 h_9 h_11 h_46 h_65 h_66 h_70 h_75 h_1271 h_1282 h_1283 h_1285 h_1286 h_1287 h_1288 h_1289 h_1290 h_1291 h_1292 h_1293 h_1294 h_1295 h_1296 h_1297 h_1298 h_1299 h_1301 hq6 hq7 h_12 h_21 h_37 h_1300 h_1312; omega) | omega) (by first | (clear ha2 hq0 hq1 hq2 hq3 hq4 hq8 h_1 h_2 h_3 h_4 h_5 h_6 h_7 h_8 h_9 h_10 h_11 h_46 h_65 h_66 h_70 h_75 h_1271 h_1282 h_1283 h_1285 h_1286 h_1287 h_1288 h_1289 h_1290 h_1291 h_1292 h_1293 h_1294 h_1295 h_1296 h_1297 h_1298 h_1299 h_1301 hq6 hq7 h_12 h_21 h_37 h_1300 h_1312; omega) | omega)).trans (rfl)) ((wv_tr hU (by first | (clear ha2 hq0 hq1 hq2 hq3 hq4 hq5 hq8 h_1 h_2 h_3 h_4 h_6 h_7 h_8 h_9 h_11 h_46 h_65 h_66 h_70 h_75 h_1271 h_1282 h_1283 h_1285 h_1286 h_1287 h_1288 h_1289 h_1290 h_1291 h_1292 h_1293 h_1294 h_1295 h_1296 h_1297 h_1298 h_1299 h_1301 h_1314 h_1316 hq6 hq7 h_12 h_21 h_37 h_1300 h_1312; omega) | omega) (by first | (clear ha2 hq0 hq1 hq2 hq3 hq4 hq8 h_1 h_2 h_3 h_4 h_5 h_6 h_7 h_8 h_9 h_10 h_11 h_65 h_66 h_70 h_75 h_1271 h_1282 h_1283 h_1285 h_1286 h_1287 h_1288 h_1289 h_1290 h_1291 h_1292 h_1293 h_1294 h_1295 h_1296 h_1297 h_1298 h_1299 h_1301 h_1314 h_1316 hq6 hq7 h_12 h_21 h_37 h_1300 h_1312; omega) | omega) (fun j h1 h2 => ⟨(ln_in (e := e1) (a := (nx F e1 p0)) h1 h2).1, (ln_in (e := e1) (a := (nx F e1 p0)) h1 h2).2.1⟩)).trans (rfl)) (fun c_1317 hI_1318 hF_1319 hz_1320 => ?_))
          refine bk_inl ?_
          refine q_ldc_w_s rfl rfl rfl (by decide) ?_
          refine q_call rfl rfl rfl rfl (s_158_20 ?_)
          refine bk_inl ?_
          refine v_ic_ne_t (t := 94) rfl (by decide) ⟨by first | (clear ha2 hq0 hq1 hq2 hq3 hq4 hq5 hq8 h_1 h_2 h_3 h_4 h_5 h_6 h_7 h_8 h_9 h_10 h_11 h_46 h_65 h_66 h_70 h_75 h_1271 h_1282 h_1283 h_1285 h_1286 h_1287 h_1288 h_1289 h_1290 h_1291 h_1292 h_1293 h_1294 h_1295 h_1296 h_1297 h_1298 h_1299 h_1301 h_1314 hq6 hq7 h_12 h_21 h_37 h_1300 h_1312; omega) | omega, ⟨(Int.le_trans (by decide) h_1314.1), (Int.le_trans h_1314.2 (by decide))⟩, by decide, by decide⟩ ?_
          refine q_aload_n rfl rfl ?_
          have kn_1321 : Hid (c_1317 41 3 = e1) := (hF_1319 41 3 (fun h => absurd h.2 (ni rfl))).trans (hid kn_1313)
          refine v_cv rfl rfl rfl rfl (by decide) ⟨⟨rfl, rfl⟩, by decide, rfl⟩ (Nat.le_of_ble_eq_true rfl) (Nat.le_of_ble_eq_true rfl) (f_157 (e1 := e1) (a9 := (nx F e1 p0)) (B := H) (r8 := (nx F e1 p0)) (L8 := (ln F e1 (nx F e1 p0))) (W8 := (wv F (nx F e1 p0) (ln F e1 (nx F e1 p0)))) hI_1318 ((hid kn_1321)) ((hz_1320)) (fun j => ((hF_1319 43 j (fun h => absurd h.1 (nn rfl))).trans ((hF_1309 43 j (fun h => absurd h.1 (nn rfl))).trans (hF_1304 43 j (fun h => absurd h.1 (nn rfl))))).trans (hH j)) ((nx_tr hU (by first | (clear ha2 hq0 hq1 hq2 hq3 hq4 hq5 hq8 h_1 h_2 h_3 h_4 h_6 h_7 h_8 h_9 h_11 h_46 h_65 h_66 h_70 h_75 h_1271 h_1282 h_1283 h_1285 h_1286 h_1287 h_1288 h_1289 h_1290 h_1291 h_1292 h_1293 h_1294 h_1295 h_1296 h_1297 h_1298 h_1299 h_1301 h_1314 h_1316 hq6 hq7 h_12 h_21 h_37 h_1300 h_1312; omega) | omega) (by first | (clear ha2 hq0 hq1 hq2 hq3 hq4 hq8 h_1 h_2 h_3 h_4 h_5 h_6 h_7 h_8 h_9 h_10 h_11 h_46 h_65 h_66 h_70 h_75 h_1271 h_1282 h_1283 h_1285 h_1286 h_1287 h_1288 h_1289 h_1290 h_1291 h_1292 h_1293 h_1294 h_1295 h_1296 h_1297 h_1298 h_1299 h_1301 h_1314 h_1316 hq6 hq7 h_12 h_21 h_37 h_1300 h_1312; omega) | omega)).trans ((nx_z (by omega)))) ((ln_tr hU (by first | (clear ha2 hq0 hq1 hq2 hq3 hq4 hq5 hq8 h_1 h_2 h_3 h_4 h_6 h_7 h_8 h_9 h_11 h_46 h_65 h_66 h_70 h_75 h_1271 h_1282 h_1283 h_1285 h_1286 h_1287 h_1288 h_1289 h_1290 h_1291 h_1292 h_1293 h_1294 h_1295 h_1296 h_1297 h_1298 h_1299 h_1301 h_1314 h_1316 hq6 hq7 h_12 h_21 h_37 h_1300 h_1312; omega) | omega) (by first | (clear ha2 hq0 hq1 hq2 hq3 hq4 hq8 h_1 h_2 h_3 h_4 h_5 h_6 h_7 h_8 h_9 h_10 h_11 h_46 h_65 h_66 h_70 h_75 h_1271 h_1282 h_1283 h_1285 h_1286 h_1287 h_1288 h_1289 h_1290 h_1291 h_1292 h_1293 h_1294 h_1295 h_1296 h_1297 h_1298 h_1299 h_1301 h_1314 h_1316 hq6 hq7 h_12 h_21 h_37 h_1300 h_1312; omega) | omega)).trans (rfl)) ((wv_tr hU (by first | (clear ha2 hq0 hq1 hq2 hq3 hq4 hq5 hq8 h_1 h_2 h_3 h_4 h_6 h_7 h_8 h_9 h_11 h_46 h_65 h_66 h_70 h_75 h_1271 h_1282 h_1283 h_1285 h_1286 h_1287 h_1288 h_1289 h_1290 h_1291 h_1292 h_1293 h_1294 h_1295 h_1296 h_1297 h_1298 h_1299 h_1301 h_1314 h_1316 hq6 hq7 h_12 h_21 h_37 h_1300 h_1312; omega) | omega) (by first | (clear ha2 hq0 hq1 hq2 hq3 hq4 hq8 h_1 h_2 h_3 h_4 h_5 h_6 h_7 h_8 h_9 h_10 h_11 h_65 h_66 h_70 h_75 h_1271 h_1282 h_1283 h_1285 h_1286 h_1287 h_1288 h_1289 h_1290 h_1291 h_1292 h_1293 h_1294 h_1295 h_1296 h_1297 h_1298 h_1299 h_1301 h_1314 h_1316 hq6 hq7 h_12 h_21 h_37 h_1300 h_1312; omega) | omega) (fun j h1 h2 => ⟨(ln_in (e := e1) (a := (nx F e1 p0)) h1 h2).1, (ln_in (e := e1) (a := (nx F e1 p0)) h1 h2).2.1⟩)).trans (rfl)) (fun c_1322 hI_1323 hF_1324 hz_1325 => ?_))
          refine bk_inl ?_
          refine q_ldc_w_s rfl rfl rfl (by decide) ?_
          refine q_call rfl rfl rfl rfl (s_158_21 ?_)
          refine bk_inl ?_
          refine v_ic_ne_f (t := 117) rfl (by decide) (by first | (clear ha2 hq0 hq1 hq2 hq3 hq4 hq5 hq8 h_1 h_2 h_3 h_4 h_5 h_6 h_7 h_8 h_9 h_10 h_11 h_46 h_65 h_66 h_70 h_75 h_1271 h_1282 h_1283 h_1285 h_1286 h_1287 h_1288 h_1289 h_1290 h_1291 h_1292 h_1293 h_1294 h_1295 h_1296 h_1297 h_1298 h_1299 h_1301 h_1314 hq6 hq7 h_12 h_21 h_37 h_1300 h_1312; omega) | omega) ?_
          refine q_aload_n rfl rfl ?_
          refine q_iconst rfl ?_
          refine v_bip rfl (by decide) ?_
          refine v_cv rfl rfl rfl rfl (by decide) ⟨⟨rfl, rfl⟩, by decide, rfl⟩ (Nat.le_of_ble_eq_true rfl) (Nat.le_of_ble_eq_true rfl) ?_
          refine q_aload_n rfl rfl ?_
          refine q_iload_n rfl rfl ?_
          refine v_cv rfl rfl rfl rfl (by decide) ⟨⟨rfl, rfl⟩, by decide, rfl⟩ (Nat.le_of_ble_eq_true rfl) (Nat.le_of_ble_eq_true rfl) ?_
          refine q_aload_n rfl rfl ?_
          refine v_cv rfl rfl rfl rfl (by decide) ⟨⟨rfl, rfl⟩, by decide, rfl⟩ (Nat.le_of_ble_eq_true rfl) (Nat.le_of_ble_eq_true rfl) ?_
          refine q_aload_n rfl rfl ?_
          have kn_1326 : Hid (c_1302 41 5 = (-1)) := (hF_1304 41 5 (fun h => absurd h.2 (ni rfl))).trans hro_hRt.2.1
          have kn_1327 : Hid (c_1307 41 5 = (-1)) := (hF_1309 41 5 (fun h => absurd h.2 (ni rfl))).trans (hid kn_1326)
          have kn_1328 : Hid (c_1317 41 5 = (-1)) := (hF_1319 41 5 (fun h => absurd h.2 (ni rfl))).trans (hid kn_1327)
          have kn_1329 : Hid (c_1322 41 5 = (-1)) := (hF_1324 41 5 (fun h => absurd h.2 (ni rfl))).trans (hid kn_1328)
          refine v_gi (z := 5) (v := (-1)) rfl rfl rfl (by decide) rfl rfl (hid kn_1329) ?_
          refine q_iconst rfl ?_
          refine v_ic_ne_f (t := 12) rfl (by decide) (by decide) ?_
          refine q_iconst rfl ?_
          refine q_goto (t := 13) rfl (by decide) ?_
          refine v_zret rfl rfl (by decide) ?_
          refine bk_inl ?_
          refine v_if_eq_f (t := 25) rfl (by decide) (by decide) ?_
          refine q_aload_n rfl rfl ?_
          have kn_1330 : Hid (c_1302 41 7 = o0) := (hF_1304 41 7 (fun h => absurd h.2 (ni rfl))).trans (hr_o0)
          have kn_1331 : Hid (c_1307 41 7 = o0) := (hF_1309 41 7 (fun h => absurd h.2 (ni rfl))).trans (hid kn_1330)
          have kn_1332 : Hid (c_1317 41 7 = o0) := (hF_1319 41 7 (fun h => absurd h.2 (ni rfl))).trans (hid kn_1331)
          have kn_1333 : Hid (c_1322 41 7 = o0) := (hF_1324 41 7 (fun h => absurd h.2 (ni rfl))).trans (hid kn_1332)
          refine v_gi (z := 7) (v := o0) rfl rfl rfl (by decide) rfl rfl (hid kn_1333) ?_
          refine v_bip rfl (by decide) ?_
          refine v_ic_ne_t (t := 25) rfl (by decide) ⟨by first | (clear ha2 hq0 hq1 hq3 hq4 hq5 hq8 h_1 h_2 h_3 h_4 h_5 h_6 h_7 h_8 h_9 h_10 h_11 h_46 h_65 h_66 h_75 h_1271 h_1282 h_1283 h_1285 h_1286 h_1287 h_1288 h_1289 h_1290 h_1291 h_1292 h_1293 h_1294 h_1295 h_1296 h_1297 h_1298 h_1299 h_1301 h_1314 h_1316 hq6 hq7 h_12 h_21 h_37 h_1300 h_1312; omega) | omega, ⟨(Int.le_trans (by decide) (rg_eq hr_o0 h_8).1), (Int.le_trans (rg_eq hr_o0 h_8).2 (by decide))⟩, by decide, by decide⟩ ?_
          refine q_aload_n rfl rfl ?_
          refine v_cv rfl rfl rfl rfl (by decide) ⟨⟨rfl, rfl⟩, by decide, rfl⟩ (Nat.le_of_ble_eq_true rfl) (Nat.le_of_ble_eq_true rfl) ?_
          refine q_aload_n rfl rfl ?_
          refine v_gi (z := 5) (v := (-1)) rfl rfl rfl (by decide) rfl rfl (hid kn_1329) ?_
          refine q_iconst rfl ?_
          refine v_ic_ne_f (t := 12) rfl (by decide) (by decide) ?_
          refine q_iconst rfl ?_
          refine q_goto (t := 13) rfl (by decide) ?_
          refine v_zret rfl rfl (by decide) ?_
          refine bk_inl ?_
          refine v_if_eq_f (t := 42) rfl (by decide) (by decide) ?_
          refine q_aload_n rfl rfl ?_
          refine q_dup rfl rfl ?_
          refine v_gi (z := 4) (v := (nx F e1 p0)) rfl rfl rfl (by decide) rfl rfl (hz_1325) ?_
          refine q_iload_n rfl rfl ?_
          refine v_iadd (v := (nx F e1 p0) + 4) rfl rfl ?_
          refine v_pi (z := 4) rfl rfl rfl (by decide) rfl rfl rfl (by decide) ?_
          refine q_aload_n rfl rfl ?_
          refine q_dup rfl rfl ?_
          refine v_gi (z := 7) (v := o0) rfl rfl rfl (by decide) rfl rfl ((up_n (by decide)).trans (hid kn_1333)) ?_
          refine q_iconst rfl ?_
          refine v_iadd (v := o0 + 1) rfl rfl ?_
          refine v_pi (z := 7) rfl rfl rfl (by decide) rfl rfl rfl (by decide) ?_
          refine q_vret rfl rfl ?_
          refine bk_inl ?_
          refine q_aload_n rfl rfl ?_
          refine v_bip rfl (by decide) ?_
          have hI_1334 := iw_41_4 (v := (nx F e1 p0) + 4) hI_1323 ⟨by first | exact rgp_l (rg_be h_10 ((rg_eq hg_p0 h_5).1) ((rg_eq hg_e1 h_1).2)).1 (by decide) | omega, by first | exact rgp_h (rg_be h_10 ((rg_eq hg_p0 h_5).1) ((rg_eq hg_e1 h_1).2)).2 (by decide) | omega⟩
          have hI_1335 := iw_41_7 (v := o0 + 1) hI_1334 ⟨by first | exact rgp_l (rg_eq hr_o0 h_8).1 (by decide) | omega, by first | (clear ha2 hq0 hq1 hq3 hq4 hq5 hq8 h_1 h_2 h_3 h_4 h_5 h_6 h_7 h_8 h_9 h_10 h_11 h_46 h_65 h_66 h_75 h_1271 h_1282 h_1283 h_1285 h_1286 h_1287 h_1288 h_1289 h_1290 h_1291 h_1292 h_1293 h_1294 h_1295 h_1296 h_1297 h_1298 h_1299 h_1301 h_1314 h_1316 hq6 hq7 h_12 h_21 h_37 h_1300 h_1312; omega) | omega⟩
          have kn_1336 : Hid (c_62 1 1 = e1) := (hF_64 1 1 (fun q => q.elim (fun h => absurd h.2 (ni rfl)) (fun q => q.elim (fun h => absurd h.2 (ni rfl)) (fun h => absurd h.2 (ni rfl))))).trans (hid kn_39)
          have kn_1337 : Hid (c_1322 41 3 = e1) := (hF_1324 41 3 (fun h => absurd h.2 (ni rfl))).trans (hid kn_1321)
          have h_1338 : c_62 1 4 = 0 := (hz_68)
          have h_1339 : c_62 1 2 = (ln F e1 (nx F e1 p0)) := (hz_67)
          have h_1340 : c_62 1 5 = g0 := (hz_69)
          have h_1341 : (up (up c_1322 41 4 ((nx F e1 p0) + 4)) 41 7 (o0 + 1)) 41 5 = (-1) := ((up_n (by decide)).trans ((up_n (by decide)).trans (hid kn_1329)))
          have h_1342 : (up (up c_1322 41 4 ((nx F e1 p0) + 4)) 41 7 (o0 + 1)) 41 4 = (nx F e1 p0) + 4 := ((up_n (by decide)).trans (up_e rfl))
          have kn_1343 : Hid (c_1302 41 6 = c 41 6) := hF_1304 41 6 (fun h => absurd h.2 (ni rfl))
          have kn_1344 : Hid (c_1307 41 6 = c 41 6) := (hF_1309 41 6 (fun h => absurd h.2 (ni rfl))).trans (hid kn_1343)
          have kn_1345 : Hid (c_1317 41 6 = c 41 6) := (hF_1319 41 6 (fun h => absurd h.2 (ni rfl))).trans (hid kn_1344)
          have kn_1346 : Hid (c_1322 41 6 = c 41 6) := (hF_1324 41 6 (fun h => absurd h.2 (ni rfl))).trans (hid kn_1345)
          have h_1347 : (up (up c_1322 41 4 ((nx F e1 p0) + 4)) 41 7 (o0 + 1)) 41 6 = c 41 6 := ((up_n (by decide)).trans ((up_n (by decide)).trans (hid kn_1346)))
          refine v_cv rfl rfl rfl rfl (by decide) ⟨⟨rfl, rfl⟩, by decide, rfl⟩ (Nat.le_of_ble_eq_true rfl) (Nat.le_of_ble_eq_true rfl) (L_11_3 (m := c_62) (e1 := e1) (a9 := (ln F e1 (nx F e1 p0))) (f0 := 0) (F := F) (H := H) hI_1335 hI_63 hI_72 ((hid kn_1336)) (((up_n (by decide)).trans ((up_n (by decide)).trans (hid kn_1337)))) ((hz_67)) ((hz_68)) (fun j => ((hF_64 2 j (fun q => q.elim (fun h => absurd h.1 (nn rfl)) (fun q => q.elim (fun h => absurd h.1 (nn rfl)) (fun h => absurd h.1 (nn rfl))))).trans ((hF_36 2 j (fun h => absurd h.1 (nn rfl))).trans ((hF_26 2 j (fun h => absurd h.1 (nn rfl))).trans (hF_20 2 j (fun h => absurd h.1 (nn rfl)))))).trans (hF j)) (fun j => ((up_c (nn rfl)).trans ((up_c (nn rfl)).trans ((hF_1324 43 j (fun h => absurd h.1 (nn rfl))).trans ((hF_1319 43 j (fun h => absurd h.1 (nn rfl))).trans ((hF_1309 43 j (fun h => absurd h.1 (nn rfl))).trans (hF_1304 43 j (fun h => absurd h.1 (nn rfl)))))))).trans (hH j)) hU (rt_i1 ⟨by first | (clear ha2 hq0 hq1 hq2 hq3 hq4 hq5 hq8 h_1 h_2 h_3 h_4 h_5 h_6 h_7 h_8 h_9 h_10 h_11 h_46 h_65 h_66 h_70 h_75 h_1271 h_1282 h_1283 h_1285 h_1286 h_1287 h_1288 h_1289 h_1290 h_1291 h_1292 h_1293 h_1294 h_1295 h_1296 h_1297 h_1298 h_1299 h_1301 h_1314 h_1316 hq6 hq7 h_12 h_21 h_37 h_1300 h_1312; omega) | omega, by first | (clear ha2 hq0 hq1 hq2 hq3 hq4 hq5 hq8 h_1 h_2 h_3 h_4 h_5 h_6 h_7 h_8 h_9 h_10 h_11 h_46 h_65 h_66 h_70 h_75 h_1271 h_1282 h_1283 h_1285 h_1286 h_1287 h_1288 h_1289 h_1290 h_1291 h_1292 h_1293 h_1294 h_1295 h_1296 h_1297 h_1298 h_1299 h_1301 h_1314 h_1316 hq6 hq7 h_12 h_21 h_37 h_1300 h_1312; omega) | omega, by first | (clear ha2 hq0 hq1 hq2 hq3 hq4 hq5 hq8 h_1 h_2 h_3 h_4 h_5 h_6 h_7 h_8 h_9 h_10 h_11 h_46 h_65 h_66 h_70 h_75 h_1271 h_1282 h_1283 h_1285 h_1286 h_1287 h_1288 h_1289 h_1290 h_1291 h_1292 h_1293 h_1294 h_1295 h_1296 h_1297 h_1298 h_1299 h_1301 h_1314 hq6 hq7 h_12 h_21 h_37 h_1300 h_1312; omega) | omega, by first | (clear ha2 hq0 hq2 hq3 hq4 hq5 hq8 h_1 h_2 h_3 h_4 h_5 h_6 h_7 h_8 h_9 h_10 h_11 h_46 h_65 h_66 h_70 h_75 h_1271 h_1282 h_1283 h_1285 h_1286 h_1287 h_1288 h_1289 h_1290 h_1291 h_1292 h_1293 h_1294 h_1295 h_1296 h_1297 h_1298 h_1299 h_1301 h_1314 h_1316 hq6 hq7 h_12 h_21 h_37 h_1300 h_1312; omega) | omega⟩) hG_74 (fun c_1348 hI_1349 hF_1350 hR_1352 h_1353 h_1354 => ?_))
          refine bk_inl ?_
          have h_1355 := ir_1_2 hI_72
          refine q_aload_n rfl rfl ?_
          have h_1356 := ir_41_5 hI_1349
          have h_1357 := ir_41_4 hI_1349
          have h_1358 := ir_41_6 hI_1349
          have h_1359 := rt_bad hR_1352 (by omega)
          have hrb_hR_1352 := rt_bad hR_1352 (by omega)
          have h_1360 : ¬ c_1348 41 5 = -1 := by rw [show c_1348 41 5 = c_71 1 5 from hrb_hR_1352.2.1]; omega
          refine v_cv rfl rfl rfl rfl (by decide) ⟨⟨rfl, rfl⟩, by decide, rfl⟩ (Nat.le_of_ble_eq_true rfl) (Nat.le_of_ble_eq_true rfl) (n_174 hI_1349 (by omega) ?_)
          refine bk_inl ?_
          refine q_aload_n rfl rfl ?_
          refine v_bip rfl (by decide) ?_
          refine v_cv rfl rfl rfl rfl (by decide) ⟨⟨rfl, rfl⟩, by decide, rfl⟩ (Nat.le_of_ble_eq_true rfl) (Nat.le_of_ble_eq_true rfl) ?_
          refine q_aload_n rfl rfl ?_
          refine v_cv rfl rfl rfl rfl (by decide) ⟨⟨rfl, rfl⟩, by decide, rfl⟩ (Nat.le_of_ble_eq_true rfl) (Nat.le_of_ble_eq_true rfl) ?_
          refine q_aload_n rfl rfl ?_
          refine v_gi (z := 5) (v := c_71 1 5) rfl rfl rfl (by decide) rfl rfl hrb_hR_1352.2.1 ?_
          refine q_iconst rfl ?_
          refine v_ic_ne_t (t := 12) rfl (by decide) ⟨by first | (clear ha2 hq0 hq1 hq2 hq3 hq4 hq5 hq8 h_1 h_2 h_3 h_4 h_5 h_6 h_7 h_8 h_9 h_10 h_11 h_46 h_65 h_66 h_70 h_75 h_1271 h_1282 h_1283 h_1285 h_1286 h_1287 h_1288 h_1289 h_1290 h_1291 h_1292 h_1293 h_1294 h_1295 h_1296 h_1297 h_1298 h_1299 h_1301 h_1314 h_1316 h_1355 h_1356 h_1357 h_1358 hq6 hq7 h_12 h_21 h_37 h_1300 h_1312 h_1353 h_1354; omega) | omega, ⟨(Int.le_trans (by decide) h_1271.1), (Int.le_trans h_1271.2 (by decide))⟩, by decide, by decide⟩ ?_
          refine q_iconst rfl ?_
          refine v_zret rfl rfl (by decide) ?_
          refine bk_inl ?_
          refine v_if_eq_t (t := 24) rfl (by decide) (by decide) ?_
          refine q_aload_n rfl rfl ?_
          refine v_cv rfl rfl rfl rfl (by decide) ⟨⟨rfl, rfl⟩, by decide, rfl⟩ (Nat.le_of_ble_eq_true rfl) (Nat.le_of_ble_eq_true rfl) ?_
          refine q_aload_n rfl rfl ?_
          refine v_gi (z := 5) (v := c_71 1 5) rfl rfl rfl (by decide) rfl rfl hrb_hR_1352.2.1 ?_
          refine q_iconst rfl ?_
          refine v_ic_ne_t (t := 12) rfl (by decide) ⟨by first | (clear ha2 hq0 hq1 hq2 hq3 hq4 hq5 hq8 h_1 h_2 h_3 h_4 h_5 h_6 h_7 h_8 h_9 h_10 h_11 h_46 h_65 h_66 h_70 h_75 h_1271 h_1282 h_1283 h_1285 h_1286 h_1287 h_1288 h_1289 h_1290 h_1291 h_1292 h_1293 h_1294 h_1295 h_1296 h_1297 h_1298 h_1299 h_1301 h_1314 h_1316 h_1355 h_1356 h_1357 h_1358 hq6 hq7 h_12 h_21 h_37 h_1300 h_1312 h_1353 h_1354; omega) | omega, ⟨(Int.le_trans (by decide) h_1271.1), (Int.le_trans h_1271.2 (by decide))⟩, by decide, by decide⟩ ?_
          refine q_iconst rfl ?_
          refine v_zret rfl rfl (by decide) ?_
          refine bk_inl ?_
          refine v_if_eq_t (t := 41) rfl (by decide) (by decide) ?_
          refine q_vret rfl rfl ?_
          refine bk_inl ?_
          refine q_aload_n rfl rfl ?_
          have h_1361 : ¬ c_1348 41 5 = -1 := by rw [show c_1348 41 5 = c_71 1 5 from hrb_hR_1352.2.1]; omega
          refine v_cv rfl rfl rfl rfl (by decide) ⟨⟨rfl, rfl⟩, by decide, rfl⟩ (Nat.le_of_ble_eq_true rfl) (Nat.le_of_ble_eq_true rfl) (n_174 hI_1349 (by omega) ?_)
          refine bk_inl ?_
          refine q_aload_n rfl rfl ?_
          refine v_bip rfl (by decide) ?_
          refine v_cv rfl rfl rfl rfl (by decide) ⟨⟨rfl, rfl⟩, by decide, rfl⟩ (Nat.le_of_ble_eq_true rfl) (Nat.le_of_ble_eq_true rfl) ?_
          refine q_aload_n rfl rfl ?_
          refine v_cv rfl rfl rfl rfl (by decide) ⟨⟨rfl, rfl⟩, by decide, rfl⟩ (Nat.le_of_ble_eq_true rfl) (Nat.le_of_ble_eq_true rfl) ?_
          refine q_aload_n rfl rfl ?_
          refine v_gi (z := 5) (v := c_71 1 5) rfl rfl rfl (by decide) rfl rfl hrb_hR_1352.2.1 ?_
          refine q_iconst rfl ?_
          refine v_ic_ne_t (t := 12) rfl (by decide) ⟨by first | (clear ha2 hq0 hq1 hq2 hq3 hq4 hq5 hq8 h_1 h_2 h_3 h_4 h_5 h_6 h_7 h_8 h_9 h_10 h_11 h_46 h_65 h_66 h_70 h_75 h_1271 h_1282 h_1283 h_1285 h_1286 h_1287 h_1288 h_1289 h_1290 h_1291 h_1292 h_1293 h_1294 h_1295 h_1296 h_1297 h_1298 h_1299 h_1301 h_1314 h_1316 h_1355 h_1356 h_1357 h_1358 hq6 hq7 h_12 h_21 h_37 h_1300 h_1312 h_1353 h_1354; omega) | omega, ⟨(Int.le_trans (by decide) h_1271.1), (Int.le_trans h_1271.2 (by decide))⟩, by decide, by decide⟩ ?_
          refine q_iconst rfl ?_
          refine v_zret rfl rfl (by decide) ?_
          refine bk_inl ?_
          refine v_if_eq_t (t := 24) rfl (by decide) (by decide) ?_
          refine q_aload_n rfl rfl ?_
          refine v_cv rfl rfl rfl rfl (by decide) ⟨⟨rfl, rfl⟩, by decide, rfl⟩ (Nat.le_of_ble_eq_true rfl) (Nat.le_of_ble_eq_true rfl) ?_
          refine q_aload_n rfl rfl ?_
          refine v_gi (z := 5) (v := c_71 1 5) rfl rfl rfl (by decide) rfl rfl hrb_hR_1352.2.1 ?_
          refine q_iconst rfl ?_
          refine v_ic_ne_t (t := 12) rfl (by decide) ⟨by first | (clear ha2 hq0 hq1 hq2 hq3 hq4 hq5 hq8 h_1 h_2 h_3 h_4 h_5 h_6 h_7 h_8 h_9 h_10 h_11 h_46 h_65 h_66 h_70 h_75 h_1271 h_1282 h_1283 h_1285 h_1286 h_1287 h_1288 h_1289 h_1290 h_1291 h_1292 h_1293 h_1294 h_1295 h_1296 h_1297 h_1298 h_1299 h_1301 h_1314 h_1316 h_1355 h_1356 h_1357 h_1358 hq6 hq7 h_12 h_21 h_37 h_1300 h_1312 h_1353 h_1354; omega) | omega, ⟨(Int.le_trans (by decide) h_1271.1), (Int.le_trans h_1271.2 (by decide))⟩, by decide, by decide⟩ ?_
          refine q_iconst rfl ?_
          refine v_zret rfl rfl (by decide) ?_
          refine bk_inl ?_
          refine v_if_eq_t (t := 41) rfl (by decide) (by decide) ?_
          refine q_vret rfl rfl ?_
          refine bk_inl ?_
          refine q_aload_n rfl rfl ?_
          refine q_dup rfl rfl ?_
          have kn_1362 : Hid (c_1348 41 7 = o0 + 1) := (hF_1350 41 7 (fun q => q.elim (fun h => absurd h.2 (ni rfl)) (fun q => q.elim (fun h => absurd h.2 (ni rfl)) (fun h => absurd h.2 (ni rfl))))).trans (up_e rfl)
          refine v_gi (z := 7) (v := o0 + 1) rfl rfl rfl (by decide) rfl rfl (hid kn_1362) ?_
          refine q_iconst rfl ?_
          refine v_isub (v := o0) rfl (by first | (clear ha2 hq0 hq1 hq2 hq3 hq4 hq5 hq8 h_1 h_2 h_3 h_4 h_5 h_6 h_7 h_8 h_9 h_10 h_11 h_46 h_65 h_66 h_70 h_75 h_1271 h_1282 h_1283 h_1285 h_1286 h_1287 h_1288 h_1289 h_1290 h_1291 h_1292 h_1293 h_1294 h_1295 h_1296 h_1297 h_1298 h_1299 h_1301 h_1314 h_1316 h_1355 h_1356 h_1357 h_1358 h_1359 hq6 hq7 h_12 h_21 h_37 h_1300 h_1312 h_1353 h_1354; omega) | omega) ?_
          refine v_pi (z := 7) rfl rfl rfl (by decide) rfl rfl rfl (by decide) ?_
          refine q_aload_n rfl rfl ?_
          refine q_iload_n rfl rfl ?_
          refine q_iconst rfl ?_
          refine v_cv rfl rfl rfl rfl (by decide) ⟨⟨rfl, rfl⟩, by decide, rfl⟩ (Nat.le_of_ble_eq_true rfl) (Nat.le_of_ble_eq_true rfl) ?_
          refine q_aload_n rfl rfl ?_
          refine v_cv rfl rfl rfl rfl (by decide) ⟨⟨rfl, rfl⟩, by decide, rfl⟩ (Nat.le_of_ble_eq_true rfl) (Nat.le_of_ble_eq_true rfl) ?_
          refine q_aload_n rfl rfl ?_
          refine v_gi (z := 5) (v := c_71 1 5) rfl rfl rfl (by decide) rfl rfl (((up_n (by decide))).trans (hrb_hR_1352.2.1)) ?_
          refine q_iconst rfl ?_
          refine v_ic_ne_t (t := 12) rfl (by decide) ⟨by first | (clear ha2 hq0 hq1 hq2 hq3 hq4 hq5 hq8 h_1 h_2 h_3 h_4 h_5 h_6 h_7 h_8 h_9 h_10 h_11 h_46 h_65 h_66 h_70 h_75 h_1271 h_1282 h_1283 h_1285 h_1286 h_1287 h_1288 h_1289 h_1290 h_1291 h_1292 h_1293 h_1294 h_1295 h_1296 h_1297 h_1298 h_1299 h_1301 h_1314 h_1316 h_1355 h_1356 h_1357 h_1358 hq6 hq7 h_12 h_21 h_37 h_1300 h_1312 h_1353 h_1354; omega) | omega, ⟨(Int.le_trans (by decide) h_1271.1), (Int.le_trans h_1271.2 (by decide))⟩, by decide, by decide⟩ ?_
          refine q_iconst rfl ?_
          refine v_zret rfl rfl (by decide) ?_
          refine bk_inl ?_
          refine v_if_ne_f (t := 8) rfl (by decide) (by decide) ?_
          refine q_vret rfl rfl ?_
          refine bk_inl ?_
          refine q_vret rfl rfl ?_
          refine bk_inl ?_
          refine q_goto (t := 154) rfl (by decide) ?_
          refine q_vret rfl rfl ?_
          have hI_1363 := iw_41_7 (v := o0) hI_1349 ⟨(rg_eq hr_o0 h_8).1, (rg_eq hr_o0 h_8).2⟩
          have h_1364 : (up c_1348 41 7 o0) 41 5 = c_71 1 5 := (((up_n (by decide))).trans (hrb_hR_1352.2.1))
          have h_1365 : (up c_1348 41 7 o0) 41 4 = c_1348 41 4 := (up_n (by decide))
          have h_1366 : (up c_1348 41 7 o0) 41 6 = c_71 1 4 := (((up_n (by decide))).trans (hrb_hR_1352.2.2.2))
          have kn_1367 : Hid (c_1302 41 29 = n0) := (hF_1304 41 29 (fun h => absurd h.2 (ni rfl))).trans (hr_n0)
          have kn_1368 : Hid (c_1307 41 29 = n0) := (hF_1309 41 29 (fun h => absurd h.2 (ni rfl))).trans (hid kn_1367)
          have kn_1369 : Hid (c_1317 41 29 = n0) := (hF_1319 41 29 (fun h => absurd h.2 (ni rfl))).trans (hid kn_1368)
          have kn_1370 : Hid (c_1322 41 29 = n0) := (hF_1324 41 29 (fun h => absurd h.2 (ni rfl))).trans (hid kn_1369)
          have kn_1371 : Hid (c_1348 41 29 = n0) := (hF_1350 41 29 (fun q => q.elim (fun h => absurd h.2 (ni rfl)) (fun q => q.elim (fun h => absurd h.2 (ni rfl)) (fun h => absurd h.2 (ni rfl))))).trans ((up_n (by decide)).trans ((up_n (by decide)).trans (hid kn_1370)))
          have h_1372 : (up c_1348 41 7 o0) 41 29 = n0 := ((up_n (by decide)).trans (hid kn_1371))
          have h_1373 : (up c_1348 41 7 o0) 41 7 = o0 := (up_e rfl)
          have h_1374 : (up c_1348 41 7 o0) 41 29 = n0 := ((up_n (by decide)).trans (hid kn_1371))
          exact K (up c_1348 41 7 o0)  hI_1363 (fun a j hm => (up_b (Decidable.or_iff_not_imp_left.mpr (fun h1 h2 => hm (Or.inr (Or.inr (Or.inr (Or.inl ⟨Decidable.not_not.mp h1, h2⟩))))))).trans ((hF_1350 a j (fun q => q.elim (fun h => hm (Or.inl h)) (fun q => q.elim (fun h => hm (Or.inr (Or.inl h))) (fun h => hm (Or.inr (Or.inr (Or.inl h))))))).trans ((up_b (Decidable.or_iff_not_imp_left.mpr (fun h1 h2 => hm (Or.inr (Or.inr (Or.inr (Or.inl ⟨Decidable.not_not.mp h1, h2⟩))))))).trans ((up_b (Decidable.or_iff_not_imp_left.mpr (fun h1 h2 => hm (Or.inl ⟨Decidable.not_not.mp h1, h2⟩)))).trans ((hF_1324 a j (fun h => hm (Or.inl h))).trans ((hF_1319 a j (fun h => hm (Or.inl h))).trans ((hF_1309 a j (fun h => hm (Or.inl h))).trans (hF_1304 a j (fun h => hm (Or.inl h)))))))))) (rt_i2 ⟨⟨by first | (clear ha2 hq0 hq1 hq2 hq3 hq4 hq5 hq8 h_1 h_2 h_3 h_4 h_5 h_6 h_7 h_8 h_9 h_10 h_11 h_46 h_65 h_66 h_70 h_75 h_1271 h_1282 h_1283 h_1285 h_1287 h_1288 h_1289 h_1290 h_1291 h_1292 h_1293 h_1294 h_1295 h_1296 h_1297 h_1298 h_1299 h_1301 h_1314 h_1316 h_1355 h_1356 h_1357 h_1358 hq6 hq7 h_12 h_21 h_37 h_1300 h_1312 h_1353 h_1354; omega) | omega, by first | (clear ha2 hq0 hq1 hq2 hq3 hq4 hq5 hq8 h_1 h_2 h_3 h_4 h_5 h_6 h_7 h_8 h_9 h_10 h_11 h_46 h_65 h_66 h_70 h_75 h_1271 h_1282 h_1283 h_1286 h_1287 h_1288 h_1289 h_1290 h_1291 h_1292 h_1293 h_1294 h_1295 h_1296 h_1297 h_1298 h_1299 h_1301 h_1314 h_1316 h_1355 h_1356 h_1357 h_1358 h_1359 hq6 hq7 h_12 h_21 h_37 h_1300 h_1312 h_1353 h_1354; omega) | omega⟩, by first | (clear ha2 hq0 hq1 hq2 hq3 hq4 hq5 hq8 h_1 h_2 h_3 h_4 h_5 h_6 h_7 h_8 h_9 h_10 h_11 h_46 h_65 h_66 h_70 h_75 h_1271 h_1282 h_1283 h_1285 h_1286 h_1287 h_1288 h_1289 h_1290 h_1292 h_1293 h_1294 h_1295 h_1296 h_1297 h_1298 h_1299 h_1301 h_1314 h_1316 h_1355 h_1356 h_1357 h_1358 h_1359 hq6 hq7 h_12 h_21 h_37 h_1300 h_1312 h_1353 h_1354; omega) | omega, by first | (clear ha2 hq0 hq1 hq2 hq3 hq4 hq5 hq8 h_1 h_2 h_3 h_4 h_5 h_6 h_7 h_8 h_9 h_10 h_11 h_46 h_65 h_66 h_70 h_75 h_1271 h_1282 h_1283 h_1285 h_1286 h_1287 h_1288 h_1289 h_1290 h_1292 h_1293 h_1294 h_1295 h_1296 h_1297 h_1298 h_1299 h_1301 h_1314 h_1316 h_1355 h_1356 h_1357 h_1358 hq6 hq7 h_12 h_21 h_37 h_1300 h_1312 h_1353 h_1354; omega) | omega, by first | (clear ha2 hq0 hq1 hq2 hq3 hq4 hq5 hq8 h_1 h_2 h_3 h_4 h_5 h_6 h_7 h_8 h_9 h_10 h_11 h_46 h_65 h_66 h_70 h_75 h_1271 h_1282 h_1283 h_1285 h_1287 h_1288 h_1289 h_1290 h_1291 h_1292 h_1293 h_1294 h_1295 h_1296 h_1297 h_1298 h_1299 h_1301 h_1314 h_1316 h_1355 h_1356 h_1357 h_1358 h_1359 hq6 hq7 h_12 h_21 h_37 h_1300 h_1312 h_1353 h_1354; omega) | omega⟩) (Or.inr (Or.inl (by first | (clear ha2 hq0 hq1 hq2 hq3 hq4 hq5 hq8 h_1 h_2 h_3 h_4 h_5 h_6 h_7 h_8 h_9 h_10 h_11 h_46 h_65 h_66 h_70 h_75 h_1271 h_1282 h_1283 h_1285 h_1287 h_1288 h_1289 h_1290 h_1291 h_1292 h_1293 h_1294 h_1295 h_1296 h_1297 h_1298 h_1299 h_1301 h_1314 h_1316 h_1355 h_1356 h_1357 h_1358 hq6 hq7 h_12 h_21 h_37 h_1300 h_1312 h_1353 h_1354; omega) | omega))) (by first | (clear ha2 hq0 hq1 hq3 hq4 hq5 hq8 h_1 h_2 h_3 h_4 h_5 h_6 h_7 h_8 h_9 h_10 h_11 h_46 h_65 h_66 h_70 h_75 h_1271 h_1282 h_1283 h_1285 h_1286 h_1287 h_1288 h_1289 h_1290 h_1291 h_1292 h_1293 h_1294 h_1295 h_1296 h_1297 h_1298 h_1299 h_1301 h_1314 h_1316 h_1355 h_1356 h_1357 h_1358 h_1359 hq6 hq7 h_12 h_21 h_37 h_1300 h_1312 h_1353 h_1354; omega) | omega) (fun hz => absurd hz (by omega))
        · refine v_ic_ge_f (t := 32) rfl (by decide) ⟨(Int.le_trans (by decide) h_1282.1), (Int.not_le.mp h_1283), by decide⟩ ?_
          refine q_aload_n rfl rfl ?_
          refine v_gr (t := (A + 9)) rfl rfl (ck_p7 hA) (a68 hA rfl) rfl ?_
          refine q_aload_n rfl rfl ?_
          refine v_gi (z := 5) (v := c_1277 (A + 7) 5) rfl rfl (ck_p7 hA) (a68 hA rfl) rfl rfl rfl ?_
          refine q_iload_n rfl rfl ?_
          refine v_is rfl (ck_p9 hA) (a68 hA rfl) (by decide) (by omega) ?_
          refine q_aload_n rfl rfl ?_
          refine q_dup rfl rfl ?_
          refine v_gi (z := 5) (v := c_1277 (A + 7) 5) rfl rfl (ck_p7 hA) (a68 hA rfl) rfl rfl (up_c (pp rfl)) ?_
          refine q_iconst rfl ?_
          refine v_iadd (v := c_1277 (A + 7) 5 + 1) rfl rfl ?_
          refine v_pi (z := 5) rfl rfl (ck_p7 hA) (a68 hA rfl) rfl rfl rfl (by decide) ?_
          refine q_vret rfl rfl ?_
          refine bk_inl ?_
          refine q_vret rfl rfl ?_
          have hI_1375 := iw_lg (j := c_1277 (A + 7) 5) (v := (wd1_0 F (nx F e1 p0) (ln F e1 (nx F e1 p0))) + 1997) hI_1278 (lgp (k := 9) hA (by decide)) ⟨by omega, by omega⟩ (by omega)
          have hI_1376 := iw_p7_5 (v := c_1277 (A + 7) 5 + 1) hI_1375 hA ⟨by first | exact rgp_l h_1282.1 (by decide) | omega, by first | (clear ha2 hq0 hq1 hq2 hq3 hq4 hq5 hq8 h_1 h_2 h_3 h_4 h_5 h_6 h_7 h_8 h_9 h_10 h_11 h_46 h_65 h_66 h_70 h_75 h_1271 h_1282 hq6 hq7 h_12 h_21 h_37; omega) | omega⟩
          intro hE_1377
          have hW : Wd P Q P P (up (up c_1277 (A + 9) (c_1277 (A + 7) 5) ((wd1_0 F (nx F e1 p0) (ln F e1 (nx F e1 p0))) + 1997)) (A + 7) 5 (c_1277 (A + 7) 5 + 1)) = Wd P Q P P m9 := (Prod.mk.inj (Prod.mk.inj hE_1377).2).1
          have h_1378 := ir_1_4 hJ9
          have h_1379 : m9 1 4 = c_71 1 4 := wd_fv (z := 4) 4 rfl hW rfl rfl rfl rfl (by decide) ((up_c (pn hA rfl rfl)).trans ((up_c (pn hA rfl rfl)).trans (hz_1280))) ⟨(Int.le_trans (by decide) h_75.1), (Int.le_trans h_75.2 (by decide))⟩ ⟨(Int.le_trans (by decide) h_1378.1), (Int.le_trans h_1378.2 (by decide))⟩
          have h_1380 := ir_1_2 hI_1278
          have h_1381 := ir_1_2 hJ9
          have h_1382 : m9 1 2 = c_1277 1 2 := wd_fv (z := 2) 2 rfl hW rfl rfl rfl rfl (by decide) ((up_c (pn hA rfl rfl)).trans (up_c (pn hA rfl rfl))) ⟨(Int.le_trans (by decide) h_1380.1), (Int.le_trans h_1380.2 (by decide))⟩ ⟨(Int.le_trans (by decide) h_1381.1), (Int.le_trans h_1381.2 (by decide))⟩
          have h_1383 := ir_1_5 hJ9
          have h_1384 : m9 1 5 = c_71 1 5 := wd_fv (z := 5) 5 rfl hW rfl rfl rfl rfl (by decide) ((up_c (pn hA rfl rfl)).trans ((up_c (pn hA rfl rfl)).trans (hz_1281))) ⟨(Int.le_trans (by decide) h_1271.1), (Int.le_trans h_1271.2 (by decide))⟩ ⟨(Int.le_trans (by decide) h_1383.1), (Int.le_trans h_1383.2 (by decide))⟩
          have h_1385 := ir_p7_5 hJ9 hA
          have h_1386 : m9 (A + 7) 5 = c_1277 (A + 7) 5 + 1 := wd_fv (z := 5) 5 rfl hW (ck_p7 hA) (ck_p7 hA) rfl rfl (by omega) (up_e rfl) ⟨by first | exact rgp_l h_1282.1 (by decide) | omega, by first | exact rgp_h h_1282.2 (by decide) | omega⟩ ⟨(Int.le_trans (by decide) h_1385.1), (Int.le_trans h_1385.2 (by decide))⟩
          refine q_aload_n rfl rfl ?_
          refine v_cv rfl rfl rfl rfl (by decide) ⟨⟨rfl, rfl⟩, by decide, rfl⟩ (Nat.le_of_ble_eq_true rfl) (Nat.le_of_ble_eq_true rfl) ?_
          refine q_aload_n rfl rfl ?_
          have h_1387 := ir_41_5 hI
          have h_1388 := ir_41_4 hI
          have h_1389 := ir_41_6 hI
          have h_1390 := rt_ok hRt (by omega)
          have hro_hRt := rt_ok hRt (by omega)
          refine v_gi (z := 5) (v := (-1)) rfl rfl rfl (by decide) rfl rfl hro_hRt.2.1 ?_
          refine q_iconst rfl ?_
          refine v_ic_ne_f (t := 12) rfl (by decide) (by decide) ?_
          refine q_iconst rfl ?_
          refine q_goto (t := 13) rfl (by decide) ?_
          refine v_zret rfl rfl (by decide) ?_
          refine bk_inl ?_
          refine v_if_ne_t (t := 8) rfl (by decide) (by decide) ?_
          refine q_aload_n rfl rfl ?_
          have h_1391 : -2147483648 ≤ (H (nx F e1 p0)) ∧ (H (nx F e1 p0)) ≤ 2147483647 := by rw [← hH (nx F e1 p0)]; exact ir_43 hI (nx F e1 p0)
          have h_1392 := hU (nx F e1 p0) (by omega) (by omega)
          have h_1393 := hb_or (b := H) (e := e1) (r := (nx F e1 p0))
          have h_1394 := hb_bd (b := H) (e := e1) (r := (nx F e1 p0)) (lo := -2147483648) (hi := 2147483647) h_1391 (by decide)
          refine v_cv rfl rfl rfl rfl (by decide) ⟨⟨rfl, rfl⟩, by decide, rfl⟩ (Nat.le_of_ble_eq_true rfl) (Nat.le_of_ble_eq_true rfl) (f_154 (e1 := e1) (a9 := p0) (B := H) (r8 := (nx F e1 p0)) (r := (hb H e1 (nx F e1 p0))) hI ((hr_e1)) (((hro_hRt.2.2.1).trans ((hg_p0)))) (fun j => hH j) ((nx_tr hU (by first | (clear ha2 hq0 hq1 hq2 hq3 hq4 hq5 hq8 h_1 h_2 h_3 h_4 h_6 h_7 h_8 h_9 h_10 h_11 h_46 h_65 h_66 h_70 h_75 h_1271 h_1282 h_1378 h_1379 h_1380 h_1381 h_1382 h_1383 h_1384 h_1385 h_1386 h_1387 h_1388 h_1389 h_1390 hq6 hq7 h_12 h_21 h_37; omega) | omega) (by first | (clear ha2 hq0 hq1 hq2 hq3 hq4 hq8 h_1 h_2 h_3 h_4 h_5 h_6 h_7 h_8 h_9 h_10 h_11 h_46 h_65 h_66 h_70 h_75 h_1271 h_1282 h_1378 h_1379 h_1380 h_1381 h_1382 h_1383 h_1384 h_1385 h_1386 h_1387 h_1388 h_1389 h_1390 hq6 hq7 h_12 h_21 h_37; omega) | omega)).trans (rfl)) rfl (fun c_1395 hI_1396 hF_1397 h_1398 => ?_))
          refine bk_inl ?_
          refine v_bip rfl (by decide) ?_
          refine v_ic_ne_t (t := 45) rfl (by decide) ⟨by first | (clear ha2 hq0 hq1 hq2 hq3 hq8 h_3 h_4 h_5 h_6 h_7 h_8 h_9 h_11 h_65 h_66 h_70 h_75 h_1271 h_1282 h_1378 h_1379 h_1380 h_1381 h_1382 h_1383 h_1384 h_1385 h_1386 h_1387 h_1388 h_1389 h_1390; omega) | omega, ⟨h_1394.1, h_1394.2⟩, by decide, by decide⟩ ?_
          refine q_aload_n rfl rfl ?_
          have kn_1399 : Hid (c_1395 41 3 = e1) := (hF_1397 41 3 (fun h => absurd h.2 (ni rfl))).trans (hr_e1)
          refine v_cv rfl rfl rfl rfl (by decide) ⟨⟨rfl, rfl⟩, by decide, rfl⟩ (Nat.le_of_ble_eq_true rfl) (Nat.le_of_ble_eq_true rfl) (f_154 (e1 := e1) (a9 := (nx F e1 p0)) (B := H) (r8 := (nx F e1 p0)) (r := (hb H e1 (nx F e1 p0))) hI_1396 ((hid kn_1399)) ((h_1398)) (fun j => (hF_1397 43 j (fun h => absurd h.1 (nn rfl))).trans (hH j)) ((nx_tr hU (by first | (clear ha2 hq0 hq1 hq2 hq3 hq4 hq5 hq8 h_1 h_2 h_3 h_4 h_6 h_7 h_8 h_9 h_11 h_46 h_65 h_66 h_70 h_75 h_1271 h_1282 h_1378 h_1379 h_1380 h_1381 h_1382 h_1383 h_1384 h_1385 h_1386 h_1387 h_1388 h_1389 h_1390 h_1391 h_1392 h_1394 hq6 hq7 h_12 h_21 h_37 h_1393; omega) | omega) (by first | (clear ha2 hq0 hq1 hq2 hq3 hq4 hq8 h_1 h_2 h_3 h_4 h_5 h_6 h_7 h_8 h_9 h_10 h_11 h_46 h_65 h_66 h_70 h_75 h_1271 h_1282 h_1378 h_1379 h_1380 h_1381 h_1382 h_1383 h_1384 h_1385 h_1386 h_1387 h_1388 h_1389 h_1390 h_1391 h_1392 h_1394 hq6 hq7 h_12 h_21 h_37 h_1393; omega) | omega)).trans ((nx_z (by omega)))) rfl (fun c_1400 hI_1401 hF_1402 h_1403 => ?_))
          refine bk_inl ?_
          refine q_call rfl rfl rfl rfl (f_156 (a0 := (hb H e1 (nx F e1 p0))) hI_1401 (show (-2147483648) ≤ (hb H e1 (nx F e1 p0)) ∧ (hb H e1 (nx F e1 p0)) ≤ 2147483647 from h_1394) (fun y_1404 hy_1404 h_1405 => ?_))
          refine bk_inl ?_
          refine v_if_eq_t (t := 71) rfl (by decide) (by first | (clear ha2 hq0 hq1 hq2 hq3 hq8 h_3 h_4 h_5 h_6 h_7 h_8 h_9 h_11 h_65 h_66 h_70 h_75 h_1271 h_1282 h_1378 h_1379 h_1380 h_1381 h_1382 h_1383 h_1384 h_1385 h_1386 h_1387 h_1388 h_1389 h_1390; omega) | omega) ?_
          refine q_aload_n rfl rfl ?_
          have kn_1406 : Hid (c_1400 41 3 = e1) := (hF_1402 41 3 (fun h => absurd h.2 (ni rfl))).trans (hid kn_1399)
          have h_1407 := wv_bd (b := F) (r := (nx F e1 p0)) (l := (ln F e1 (nx F e1 p0))) (fun j h1 h2 => ⟨(ln_in (e := e1) (a := (nx F e1 p0)) h1 h2).1, (ln_in (e := e1) (a := (nx F e1 p0)) h1 h2).2.1⟩)
          have h_1408 := wr1_9 (b := F) (r := (nx F e1 p0)) (l := (ln F e1 (nx F e1 p0))) (by omega) (fun j h1 h2 => ⟨(ln_in (e := e1) (a := (nx F e1 p0)) h1 h2).1, (ln_in (e := e1) (a := (nx F e1 p0)) h1 h2).2.1⟩) (by omega)
          have h_1409 : (wv F (nx F e1 p0) (ln F e1 (nx F e1 p0))) = 441972 → (ln F e1 (nx F e1 p0)) - (nx F e1 p0) = 4 := wl_most (by omega) (fun j h1 h2 => ⟨(ln_in (e := e1) (a := (nx F e1 p0)) h1 h2).1, (ln_in (e := e1) (a := (nx F e1 p0)) h1 h2).2.1⟩)
          refine v_cv rfl rfl rfl rfl (by decide) ⟨⟨rfl, rfl⟩, by decide, rfl⟩ (Nat.le_of_ble_eq_true rfl) (Nat.le_of_ble_eq_true rfl) (f_157 (e1 := e1) (a9 := (nx F e1 p0)) (B := H) (r8 := (nx F e1 p0)) (L8 := (ln F e1 (nx F e1 p0))) (W8 := (wv F (nx F e1 p0) (ln F e1 (nx F e1 p0)))) hI_1401 ((hid kn_1406)) ((h_1403)) (fun j => ((hF_1402 43 j (fun h => absurd h.1 (nn rfl))).trans (hF_1397 43 j (fun h => absurd h.1 (nn rfl)))).trans (hH j)) ((nx_tr hU (by first | (clear ha2 hq0 hq1 hq2 hq3 hq4 hq5 hq8 h_1 h_2 h_3 h_4 h_6 h_7 h_8 h_9 h_11 h_46 h_65 h_66 h_70 h_75 h_1271 h_1282 h_1378 h_1379 h_1380 h_1381 h_1382 h_1383 h_1384 h_1385 h_1386 h_1387 h_1388 h_1389 h_1390 h_1391 h_1392 h_1394 hq6 hq7 h_12 h_21 h_37 h_1393 h_1405; omega) | omega) (by first | (clear ha2 hq0 hq1 hq2 hq3 hq4 hq8 h_1 h_2 h_3 h_4 h_5 h_6 h_7 h_8 h_9 h_10 h_11 h_46 h_65 h_66 h_70 h_75 h_1271 h_1282 h_1378 h_1379 h_1380 h_1381 h_1382 h_1383 h_1384 h_1385 h_1386 h_1387 h_1388 h_1389 h_1390 h_1391 h_1392 h_1394 hq6 hq7 h_12 h_21 h_37 h_1393 h_1405; omega) | omega)).trans ((nx_z (by omega)))) ((ln_tr hU (by first | (clear ha2 hq0 hq1 hq2 hq3 hq4 hq5 hq8 h_1 h_2 h_3 h_4 h_6 h_7 h_8 h_9 h_11 h_46 h_65 h_66 h_70 h_75 h_1271 h_1282 h_1378 h_1379 h_1380 h_1381 h_1382 h_1383 h_1384 h_1385 h_1386 h_1387 h_1388 h_1389 h_1390 h_1391 h_1392 h_1394 hq6 hq7 h_12 h_21 h_37 h_1393 h_1405; omega) | omega) (by first | (clear ha2 hq0 hq1 hq2 hq3 hq4 hq8 h_1 h_2 h_3 h_4 h_5 h_6 h_7 h_8 h_9 h_10 h_11 h_46 h_65 h_66 h_70 h_75 h_1271 h_1282 h_1378 h_1379 h_1380 h_1381 h_1382 h_1383 h_1384 h_1385 h_1386 h_1387 h_1388 h_1389 h_1390 h_1391 h_1392 h_1394 hq6 hq7 h_12 h_21 h_37 h_1393 h_1405; omega) | omega)).trans (rfl)) ((wv_tr hU (by first | (clear ha2 hq0 hq1 hq2 hq3 hq4 hq5 hq8 h_1 h_2 h_3 h_4 h_6 h_7 h_8 h_9 h_11 h_46 h_65 h_66 h_70 h_75 h_1271 h_1282 h_1378 h_1379 h_1380 h_1381 h_1382 h_1383 h_1384 h_1385 h_1386 h_1387 h_1388 h_1389 h_1390 h_1391 h_1392 h_1394 h_1407 h_1409 hq6 hq7 h_12 h_21 h_37 h_1393 h_1405; omega) | omega) (by first | (clear ha2 hq0 hq1 hq2 hq3 hq4 hq8 h_1 h_2 h_3 h_4 h_5 h_6 h_7 h_8 h_9 h_10 h_11 h_65 h_66 h_70 h_75 h_1271 h_1282 h_1378 h_1379 h_1380 h_1381 h_1382 h_1383 h_1384 h_1385 h_1386 h_1387 h_1388 h_1389 h_1390 h_1391 h_1392 h_1394 h_1407 h_1409 hq6 hq7 h_12 h_21 h_37 h_1393 h_1405; omega) | omega) (fun j h1 h2 => ⟨(ln_in (e := e1) (a := (nx F e1 p0)) h1 h2).1, (ln_in (e := e1) (a := (nx F e1 p0)) h1 h2).2.1⟩)).trans (rfl)) (fun c_1410 hI_1411 hF_1412 hz_1413 => ?_))
          refine bk_inl ?_
          refine q_ldc_w_s rfl rfl rfl (by decide) ?_
          refine q_call rfl rfl rfl rfl (s_158_20 ?_)
          refine bk_inl ?_
          refine v_ic_ne_t (t := 94) rfl (by decide) ⟨by first | (clear ha2 hq0 hq1 hq2 hq3 hq4 hq5 hq8 h_1 h_2 h_3 h_4 h_5 h_6 h_7 h_8 h_9 h_10 h_11 h_46 h_65 h_66 h_70 h_75 h_1271 h_1282 h_1378 h_1379 h_1380 h_1381 h_1382 h_1383 h_1384 h_1385 h_1386 h_1387 h_1388 h_1389 h_1390 h_1391 h_1392 h_1394 h_1407 hq6 hq7 h_12 h_21 h_37 h_1393 h_1405; omega) | omega, ⟨(Int.le_trans (by decide) h_1407.1), (Int.le_trans h_1407.2 (by decide))⟩, by decide, by decide⟩ ?_
          refine q_aload_n rfl rfl ?_
          have kn_1414 : Hid (c_1410 41 3 = e1) := (hF_1412 41 3 (fun h => absurd h.2 (ni rfl))).trans (hid kn_1406)
          refine v_cv rfl rfl rfl rfl (by decide) ⟨⟨rfl, rfl⟩, by decide, rfl⟩ (Nat.le_of_ble_eq_true rfl) (Nat.le_of_ble_eq_true rfl) (f_157 (e1 := e1) (a9 := (nx F e1 p0)) (B := H) (r8 := (nx F e1 p0)) (L8 := (ln F e1 (nx F e1 p0))) (W8 := (wv F (nx F e1 p0) (ln F e1 (nx F e1 p0)))) hI_1411 ((hid kn_1414)) ((hz_1413)) (fun j => ((hF_1412 43 j (fun h => absurd h.1 (nn rfl))).trans ((hF_1402 43 j (fun h => absurd h.1 (nn rfl))).trans (hF_1397 43 j (fun h => absurd h.1 (nn rfl))))).trans (hH j)) ((nx_tr hU (by first | (clear ha2 hq0 hq1 hq2 hq3 hq4 hq5 hq8 h_1 h_2 h_3 h_4 h_6 h_7 h_8 h_9 h_11 h_46 h_65 h_66 h_70 h_75 h_1271 h_1282 h_1378 h_1379 h_1380 h_1381 h_1382 h_1383 h_1384 h_1385 h_1386 h_1387 h_1388 h_1389 h_1390 h_1391 h_1392 h_1394 h_1407 h_1409 hq6 hq7 h_12 h_21 h_37 h_1393 h_1405; omega) | omega) (by first | (clear ha2 hq0 hq1 hq2 hq3 hq4 hq8 h_1 h_2 h_3 h_4 h_5 h_6 h_7 h_8 h_9 h_10 h_11 h_46 h_65 h_66 h_70 h_75 h_1271 h_1282 h_1378 h_1379 h_1380 h_1381 h_1382 h_1383 h_1384 h_1385 h_1386 h_1387 h_1388 h_1389 h_1390 h_1391 h_1392 h_1394 h_1407 h_1409 hq6 hq7 h_12 h_21 h_37 h_1393 h_1405; omega) | omega)).trans ((nx_z (by omega)))) ((ln_tr hU (by first | (clear ha2 hq0 hq1 hq2 hq3 hq4 hq5 hq8 h_1 h_2 h_3 h_4 h_6 h_7 h_8 h_9 h_11 h_46 h_65 h_66 h_70 h_75 h_1271 h_1282 h_1378 h_1379 h_1380 h_1381 h_1382 h_1383 h_1384 h_1385 h_1386 h_1387 h_1388 h_1389 h_1390 h_1391 h_1392 h_1394 h_1407 h_1409 hq6 hq7 h_12 h_21 h_37 h_1393 h_1405; omega) | omega) (by first | (clear ha2 hq0 hq1 hq2 hq3 hq4 hq8 h_1 h_2 h_3 h_4 h_5 h_6 h_7 h_8 h_9 h_10 h_11 h_46 h_65 h_66 h_70 h_75 h_1271 h_1282 h_1378 h_1379 h_1380 h_1381 h_1382 h_1383 h_1384 h_1385 h_1386 h_1387 h_1388 h_1389 h_1390 h_1391 h_1392 h_1394 h_1407 h_1409 hq6 hq7 h_12 h_21 h_37 h_1393 h_1405; omega) | omega)).trans (rfl)) ((wv_tr hU (by first | (clear ha2 hq0 hq1 hq2 hq3 hq4 hq5 hq8 h_1 h_2 h_3 h_4 h_6 h_7 h_8 h_9 h_11 h_46 h_65 h_66 h_70 h_75 h_1271 h_1282 h_1378 h_1379 h_1380 h_1381 h_1382 h_1383 h_1384 h_1385 h_1386 h_1387 h_1388 h_1389 h_1390 h_1391 h_1392 h_1394 h_1407 h_1409 hq6 hq7 h_12 h_21 h_37 h_1393 h_1405; omega) | omega) (by first | (clear ha2 hq0 hq1 hq2 hq3 hq4 hq8 h_1 h_2 h_3 h_4 h_5 h_6 h_7 h_8 h_9 h_10 h_11 h_65 h_66 h_70 h_75 h_1271 h_1282 h_1378 h_1379 h_1380 h_1381 h_1382 h_1383 h_1384 h_1385 h_1386 h_1387 h_1388 h_1389 h_1390 h_1391 h_1392 h_1394 h_1407 h_1409 hq6 hq7 h_12 h_21 h_37 h_1393 h_1405; omega) | omega) (fun j h1 h2 => ⟨(ln_in (e := e1) (a := (nx F e1 p0)) h1 h2).1, (ln_in (e := e1) (a := (nx F e1 p0)) h1 h2).2.1⟩)).trans (rfl)) (fun c_1415 hI_1416 hF_1417 hz_1418 => ?_))
          refine bk_inl ?_
          refine q_ldc_w_s rfl rfl rfl (by decide) ?_
          refine q_call rfl rfl rfl rfl (s_158_21 ?_)
          refine bk_inl ?_
          refine v_ic_ne_f (t := 117) rfl (by decide) (by first | (clear ha2 hq0 hq1 hq2 hq3 hq4 hq5 hq8 h_1 h_2 h_3 h_4 h_5 h_6 h_7 h_8 h_9 h_10 h_11 h_46 h_65 h_66 h_70 h_75 h_1271 h_1282 h_1378 h_1379 h_1380 h_1381 h_1382 h_1383 h_1384 h_1385 h_1386 h_1387 h_1388 h_1389 h_1390 h_1391 h_1392 h_1394 h_1407 hq6 hq7 h_12 h_21 h_37 h_1393 h_1405; omega) | omega) ?_
          refine q_aload_n rfl rfl ?_
          refine q_iconst rfl ?_
          refine v_bip rfl (by decide) ?_
          refine v_cv rfl rfl rfl rfl (by decide) ⟨⟨rfl, rfl⟩, by decide, rfl⟩ (Nat.le_of_ble_eq_true rfl) (Nat.le_of_ble_eq_true rfl) ?_
          refine q_aload_n rfl rfl ?_
          refine q_iload_n rfl rfl ?_
          refine v_cv rfl rfl rfl rfl (by decide) ⟨⟨rfl, rfl⟩, by decide, rfl⟩ (Nat.le_of_ble_eq_true rfl) (Nat.le_of_ble_eq_true rfl) ?_
          refine q_aload_n rfl rfl ?_
          refine v_cv rfl rfl rfl rfl (by decide) ⟨⟨rfl, rfl⟩, by decide, rfl⟩ (Nat.le_of_ble_eq_true rfl) (Nat.le_of_ble_eq_true rfl) ?_
          refine q_aload_n rfl rfl ?_
          have kn_1419 : Hid (c_1395 41 5 = (-1)) := (hF_1397 41 5 (fun h => absurd h.2 (ni rfl))).trans hro_hRt.2.1
          have kn_1420 : Hid (c_1400 41 5 = (-1)) := (hF_1402 41 5 (fun h => absurd h.2 (ni rfl))).trans (hid kn_1419)
          have kn_1421 : Hid (c_1410 41 5 = (-1)) := (hF_1412 41 5 (fun h => absurd h.2 (ni rfl))).trans (hid kn_1420)
          have kn_1422 : Hid (c_1415 41 5 = (-1)) := (hF_1417 41 5 (fun h => absurd h.2 (ni rfl))).trans (hid kn_1421)
          refine v_gi (z := 5) (v := (-1)) rfl rfl rfl (by decide) rfl rfl (hid kn_1422) ?_
          refine q_iconst rfl ?_
          refine v_ic_ne_f (t := 12) rfl (by decide) (by decide) ?_
          refine q_iconst rfl ?_
          refine q_goto (t := 13) rfl (by decide) ?_
          refine v_zret rfl rfl (by decide) ?_
          refine bk_inl ?_
          refine v_if_eq_f (t := 25) rfl (by decide) (by decide) ?_
          refine q_aload_n rfl rfl ?_
          have kn_1423 : Hid (c_1395 41 7 = o0) := (hF_1397 41 7 (fun h => absurd h.2 (ni rfl))).trans (hr_o0)
          have kn_1424 : Hid (c_1400 41 7 = o0) := (hF_1402 41 7 (fun h => absurd h.2 (ni rfl))).trans (hid kn_1423)
          have kn_1425 : Hid (c_1410 41 7 = o0) := (hF_1412 41 7 (fun h => absurd h.2 (ni rfl))).trans (hid kn_1424)
          have kn_1426 : Hid (c_1415 41 7 = o0) := (hF_1417 41 7 (fun h => absurd h.2 (ni rfl))).trans (hid kn_1425)
          refine v_gi (z := 7) (v := o0) rfl rfl rfl (by decide) rfl rfl (hid kn_1426) ?_
          refine v_bip rfl (by decide) ?_
          refine v_ic_ne_t (t := 25) rfl (by decide) ⟨by first | (clear ha2 hq0 hq1 hq3 hq4 hq5 hq8 h_1 h_2 h_3 h_4 h_5 h_6 h_7 h_8 h_9 h_10 h_11 h_46 h_65 h_66 h_75 h_1271 h_1282 h_1378 h_1379 h_1380 h_1381 h_1382 h_1383 h_1384 h_1385 h_1386 h_1387 h_1388 h_1389 h_1390 h_1391 h_1392 h_1394 h_1407 h_1409 hq6 hq7 h_12 h_21 h_37 h_1393 h_1405; omega) | omega, ⟨(Int.le_trans (by decide) (rg_eq hr_o0 h_8).1), (Int.le_trans (rg_eq hr_o0 h_8).2 (by decide))⟩, by decide, by decide⟩ ?_
          refine q_aload_n rfl rfl ?_
          refine v_cv rfl rfl rfl rfl (by decide) ⟨⟨rfl, rfl⟩, by decide, rfl⟩ (Nat.le_of_ble_eq_true rfl) (Nat.le_of_ble_eq_true rfl) ?_
          refine q_aload_n rfl rfl ?_
          refine v_gi (z := 5) (v := (-1)) rfl rfl rfl (by decide) rfl rfl (hid kn_1422) ?_
          refine q_iconst rfl ?_
          refine v_ic_ne_f (t := 12) rfl (by decide) (by decide) ?_
          refine q_iconst rfl ?_
          refine q_goto (t := 13) rfl (by decide) ?_
          refine v_zret rfl rfl (by decide) ?_
          refine bk_inl ?_
          refine v_if_eq_f (t := 42) rfl (by decide) (by decide) ?_
          refine q_aload_n rfl rfl ?_
          refine q_dup rfl rfl ?_
          refine v_gi (z := 4) (v := (nx F e1 p0)) rfl rfl rfl (by decide) rfl rfl (hz_1418) ?_
          refine q_iload_n rfl rfl ?_
          refine v_iadd (v := (nx F e1 p0) + 4) rfl rfl ?_
          refine v_pi (z := 4) rfl rfl rfl (by decide) rfl rfl rfl (by decide) ?_
          refine q_aload_n rfl rfl ?_
          refine q_dup rfl rfl ?_
          refine v_gi (z := 7) (v := o0) rfl rfl rfl (by decide) rfl rfl ((up_n (by decide)).trans (hid kn_1426)) ?_
          refine q_iconst rfl ?_
          refine v_iadd (v := o0 + 1) rfl rfl ?_
          refine v_pi (z := 7) rfl rfl rfl (by decide) rfl rfl rfl (by decide) ?_
          refine q_vret rfl rfl ?_
          refine bk_inl ?_
          refine q_aload_n rfl rfl ?_
          refine v_bip rfl (by decide) ?_
          have hI_1427 := iw_41_4 (v := (nx F e1 p0) + 4) hI_1416 ⟨by first | exact rgp_l (rg_be h_10 ((rg_eq hg_p0 h_5).1) ((rg_eq hg_e1 h_1).2)).1 (by decide) | omega, by first | exact rgp_h (rg_be h_10 ((rg_eq hg_p0 h_5).1) ((rg_eq hg_e1 h_1).2)).2 (by decide) | omega⟩
          have hI_1428 := iw_41_7 (v := o0 + 1) hI_1427 ⟨by first | exact rgp_l (rg_eq hr_o0 h_8).1 (by decide) | omega, by first | (clear ha2 hq0 hq1 hq3 hq4 hq5 hq8 h_1 h_2 h_3 h_4 h_5 h_6 h_7 h_8 h_9 h_10 h_11 h_46 h_65 h_66 h_75 h_1271 h_1282 h_1378 h_1379 h_1380 h_1381 h_1382 h_1383 h_1384 h_1385 h_1386 h_1387 h_1388 h_1389 h_1390 h_1391 h_1392 h_1394 h_1407 h_1409 hq6 hq7 h_12 h_21 h_37 h_1393 h_1405; omega) | omega⟩
          have kn_1429 : Hid (c_62 1 1 = e1) := (hF_64 1 1 (fun q => q.elim (fun h => absurd h.2 (ni rfl)) (fun q => q.elim (fun h => absurd h.2 (ni rfl)) (fun h => absurd h.2 (ni rfl))))).trans (hid kn_39)
          have kn_1430 : Hid (c_1415 41 3 = e1) := (hF_1417 41 3 (fun h => absurd h.2 (ni rfl))).trans (hid kn_1414)
          have h_1431 : c_62 1 4 = 0 := (hz_68)
          have h_1432 : c_62 1 2 = (ln F e1 (nx F e1 p0)) := (hz_67)
          have h_1433 : c_62 1 5 = g0 := (hz_69)
          have h_1434 : (up (up c_1415 41 4 ((nx F e1 p0) + 4)) 41 7 (o0 + 1)) 41 5 = (-1) := ((up_n (by decide)).trans ((up_n (by decide)).trans (hid kn_1422)))
          have h_1435 : (up (up c_1415 41 4 ((nx F e1 p0) + 4)) 41 7 (o0 + 1)) 41 4 = (nx F e1 p0) + 4 := ((up_n (by decide)).trans (up_e rfl))
          have kn_1436 : Hid (c_1395 41 6 = c 41 6) := hF_1397 41 6 (fun h => absurd h.2 (ni rfl))
          have kn_1437 : Hid (c_1400 41 6 = c 41 6) := (hF_1402 41 6 (fun h => absurd h.2 (ni rfl))).trans (hid kn_1436)
          have kn_1438 : Hid (c_1410 41 6 = c 41 6) := (hF_1412 41 6 (fun h => absurd h.2 (ni rfl))).trans (hid kn_1437)
          have kn_1439 : Hid (c_1415 41 6 = c 41 6) := (hF_1417 41 6 (fun h => absurd h.2 (ni rfl))).trans (hid kn_1438)
          have h_1440 : (up (up c_1415 41 4 ((nx F e1 p0) + 4)) 41 7 (o0 + 1)) 41 6 = c 41 6 := ((up_n (by decide)).trans ((up_n (by decide)).trans (hid kn_1439)))
          refine v_cv rfl rfl rfl rfl (by decide) ⟨⟨rfl, rfl⟩, by decide, rfl⟩ (Nat.le_of_ble_eq_true rfl) (Nat.le_of_ble_eq_true rfl) (L_11_3 (m := c_62) (e1 := e1) (a9 := (ln F e1 (nx F e1 p0))) (f0 := 0) (F := F) (H := H) hI_1428 hI_63 hI_72 ((hid kn_1429)) (((up_n (by decide)).trans ((up_n (by decide)).trans (hid kn_1430)))) ((hz_67)) ((hz_68)) (fun j => ((hF_64 2 j (fun q => q.elim (fun h => absurd h.1 (nn rfl)) (fun q => q.elim (fun h => absurd h.1 (nn rfl)) (fun h => absurd h.1 (nn rfl))))).trans ((hF_36 2 j (fun h => absurd h.1 (nn rfl))).trans ((hF_26 2 j (fun h => absurd h.1 (nn rfl))).trans (hF_20 2 j (fun h => absurd h.1 (nn rfl)))))).trans (hF j)) (fun j => ((up_c (nn rfl)).trans ((up_c (nn rfl)).trans ((hF_1417 43 j (fun h => absurd h.1 (nn rfl))).trans ((hF_1412 43 j (fun h => absurd h.1 (nn rfl))).trans ((hF_1402 43 j (fun h => absurd h.1 (nn rfl))).trans (hF_1397 43 j (fun h => absurd h.1 (nn rfl)))))))).trans (hH j)) hU (rt_i1 ⟨by first | (clear ha2 hq0 hq1 hq2 hq3 hq4 hq5 hq8 h_1 h_2 h_3 h_4 h_5 h_6 h_7 h_8 h_9 h_10 h_11 h_46 h_65 h_66 h_70 h_75 h_1271 h_1282 h_1378 h_1379 h_1380 h_1381 h_1382 h_1383 h_1384 h_1385 h_1386 h_1387 h_1388 h_1389 h_1390 h_1391 h_1392 h_1394 h_1407 h_1409 hq6 hq7 h_12 h_21 h_37 h_1393 h_1405; omega) | omega, by first | (clear ha2 hq0 hq1 hq2 hq3 hq4 hq5 hq8 h_1 h_2 h_3 h_4 h_5 h_6 h_7 h_8 h_9 h_10 h_11 h_46 h_65 h_66 h_70 h_75 h_1271 h_1282 h_1378 h_1379 h_1380 h_1381 h_1382 h_1383 h_1384 h_1385 h_1386 h_1387 h_1388 h_1389 h_1390 h_1391 h_1392 h_1394 h_1407 h_1409 hq6 hq7 h_12 h_21 h_37 h_1393 h_1405; omega) | omega, by first | (clear ha2 hq0 hq1 hq2 hq3 hq4 hq5 hq8 h_1 h_2 h_3 h_4 h_5 h_6 h_7 h_8 h_9 h_10 h_11 h_46 h_65 h_66 h_70 h_75 h_1271 h_1282 h_1378 h_1379 h_1380 h_1381 h_1382 h_1383 h_1384 h_1385 h_1386 h_1387 h_1388 h_1389 h_1390 h_1391 h_1392 h_1394 h_1407 hq6 hq7 h_12 h_21 h_37 h_1393 h_1405; omega) | omega, by first | (clear ha2 hq0 hq2 hq3 hq4 hq5 hq8 h_1 h_2 h_3 h_4 h_5 h_6 h_7 h_8 h_9 h_10 h_11 h_46 h_65 h_66 h_70 h_75 h_1271 h_1282 h_1378 h_1379 h_1380 h_1381 h_1382 h_1383 h_1384 h_1385 h_1386 h_1387 h_1388 h_1389 h_1390 h_1391 h_1392 h_1394 h_1407 h_1409 hq6 hq7 h_12 h_21 h_37 h_1393 h_1405; omega) | omega⟩) hG_74 (fun c_1441 hI_1442 hF_1443 hR_1445 h_1446 h_1447 => ?_))
          refine bk_inl ?_
          have h_1448 := ir_1_2 hI_72
          refine q_aload_n rfl rfl ?_
          have h_1449 := ir_41_5 hI_1442
          have h_1450 := ir_41_4 hI_1442
          have h_1451 := ir_41_6 hI_1442
          have h_1452 := rt_bad hR_1445 (by omega)
          have hrb_hR_1445 := rt_bad hR_1445 (by omega)
          have h_1453 : ¬ c_1441 41 5 = -1 := by rw [show c_1441 41 5 = c_71 1 5 from hrb_hR_1445.2.1]; omega
          refine v_cv rfl rfl rfl rfl (by decide) ⟨⟨rfl, rfl⟩, by decide, rfl⟩ (Nat.le_of_ble_eq_true rfl) (Nat.le_of_ble_eq_true rfl) (n_174 hI_1442 (by omega) ?_)
          refine bk_inl ?_
          refine q_aload_n rfl rfl ?_
          refine v_bip rfl (by decide) ?_
          refine v_cv rfl rfl rfl rfl (by decide) ⟨⟨rfl, rfl⟩, by decide, rfl⟩ (Nat.le_of_ble_eq_true rfl) (Nat.le_of_ble_eq_true rfl) ?_
          refine q_aload_n rfl rfl ?_
          refine v_cv rfl rfl rfl rfl (by decide) ⟨⟨rfl, rfl⟩, by decide, rfl⟩ (Nat.le_of_ble_eq_true rfl) (Nat.le_of_ble_eq_true rfl) ?_
          refine q_aload_n rfl rfl ?_
          refine v_gi (z := 5) (v := c_71 1 5) rfl rfl rfl (by decide) rfl rfl hrb_hR_1445.2.1 ?_
          refine q_iconst rfl ?_
          refine v_ic_ne_t (t := 12) rfl (by decide) ⟨by first | (clear ha2 hq0 hq1 hq2 hq3 hq4 hq5 hq8 h_1 h_2 h_3 h_4 h_5 h_6 h_7 h_8 h_9 h_10 h_11 h_46 h_65 h_66 h_70 h_75 h_1271 h_1282 h_1378 h_1379 h_1380 h_1381 h_1382 h_1383 h_1384 h_1385 h_1386 h_1387 h_1388 h_1389 h_1390 h_1391 h_1392 h_1394 h_1407 h_1409 h_1448 h_1449 h_1450 h_1451 hq6 hq7 h_12 h_21 h_37 h_1393 h_1405 h_1446 h_1447; omega) | omega, ⟨(Int.le_trans (by decide) h_1271.1), (Int.le_trans h_1271.2 (by decide))⟩, by decide, by decide⟩ ?_
          refine q_iconst rfl ?_
          refine v_zret rfl rfl (by decide) ?_
          refine bk_inl ?_
          refine v_if_eq_t (t := 24) rfl (by decide) (by decide) ?_
          refine q_aload_n rfl rfl ?_
          refine v_cv rfl rfl rfl rfl (by decide) ⟨⟨rfl, rfl⟩, by decide, rfl⟩ (Nat.le_of_ble_eq_true rfl) (Nat.le_of_ble_eq_true rfl) ?_
          refine q_aload_n rfl rfl ?_
          refine v_gi (z := 5) (v := c_71 1 5) rfl rfl rfl (by decide) rfl rfl hrb_hR_1445.2.1 ?_
          refine q_iconst rfl ?_
          refine v_ic_ne_t (t := 12) rfl (by decide) ⟨by first | (clear ha2 hq0 hq1 hq2 hq3 hq4 hq5 hq8 h_1 h_2 h_3 h_4 h_5 h_6 h_7 h_8 h_9 h_10 h_11 h_46 h_65 h_66 h_70 h_75 h_1271 h_1282 h_1378 h_1379 h_1380 h_1381 h_1382 h_1383 h_1384 h_1385 h_1386 h_1387 h_1388 h_1389 h_1390 h_1391 h_1392 h_1394 h_1407 h_1409 h_1448 h_1449 h_1450 h_1451 hq6 hq7 h_12 h_21 h_37 h_1393 h_1405 h_1446 h_1447; omega) | omega, ⟨(Int.le_trans (by decide) h_1271.1), (Int.le_trans h_1271.2 (by decide))⟩, by decide, by decide⟩ ?_
          refine q_iconst rfl ?_
          refine v_zret rfl rfl (by decide) ?_
          refine bk_inl ?_
          refine v_if_eq_t (t := 41) rfl (by decide) (by decide) ?_
          refine q_vret rfl rfl ?_
          refine bk_inl ?_
          refine q_aload_n rfl rfl ?_
          have h_1454 : ¬ c_1441 41 5 = -1 := by rw [show c_1441 41 5 = c_71 1 5 from hrb_hR_1445.2.1]; omega
          refine v_cv rfl rfl rfl rfl (by decide) ⟨⟨rfl, rfl⟩, by decide, rfl⟩ (Nat.le_of_ble_eq_true rfl) (Nat.le_of_ble_eq_true rfl) (n_174 hI_1442 (by omega) ?_)
          refine bk_inl ?_
          refine q_aload_n rfl rfl ?_
          refine v_bip rfl (by decide) ?_
          refine v_cv rfl rfl rfl rfl (by decide) ⟨⟨rfl, rfl⟩, by decide, rfl⟩ (Nat.le_of_ble_eq_true rfl) (Nat.le_of_ble_eq_true rfl) ?_
          refine q_aload_n rfl rfl ?_
          refine v_cv rfl rfl rfl rfl (by decide) ⟨⟨rfl, rfl⟩, by decide, rfl⟩ (Nat.le_of_ble_eq_true rfl) (Nat.le_of_ble_eq_true rfl) ?_
          refine q_aload_n rfl rfl ?_
          refine v_gi (z := 5) (v := c_71 1 5) rfl rfl rfl (by decide) rfl rfl hrb_hR_1445.2.1 ?_
          refine q_iconst rfl ?_
          refine v_ic_ne_t (t := 12) rfl (by decide) ⟨by first | (clear ha2 hq0 hq1 hq2 hq3 hq4 hq5 hq8 h_1 h_2 h_3 h_4 h_5 h_6 h_7 h_8 h_9 h_10 h_11 h_46 h_65 h_66 h_70 h_75 h_1271 h_1282 h_1378 h_1379 h_1380 h_1381 h_1382 h_1383 h_1384 h_1385 h_1386 h_1387 h_1388 h_1389 h_1390 h_1391 h_1392 h_1394 h_1407 h_1409 h_1448 h_1449 h_1450 h_1451 hq6 hq7 h_12 h_21 h_37 h_1393 h_1405 h_1446 h_1447; omega) | omega, ⟨(Int.le_trans (by decide) h_1271.1), (Int.le_trans h_1271.2 (by decide))⟩, by decide, by decide⟩ ?_
          refine q_iconst rfl ?_
          refine v_zret rfl rfl (by decide) ?_
          refine bk_inl ?_
          refine v_if_eq_t (t := 24) rfl (by decide) (by decide) ?_
          refine q_aload_n rfl rfl ?_
          refine v_cv rfl rfl rfl rfl (by decide) ⟨⟨rfl, rfl⟩, by decide, rfl⟩ (Nat.le_of_ble_eq_true rfl) (Nat.le_of_ble_eq_true rfl) ?_
          refine q_aload_n rfl rfl ?_
          refine v_gi (z := 5) (v := c_71 1 5) rfl rfl rfl (by decide) rfl rfl hrb_hR_1445.2.1 ?_
          refine q_iconst rfl ?_
          refine v_ic_ne_t (t := 12) rfl (by decide) ⟨by first | (clear ha2 hq0 hq1 hq2 hq3 hq4 hq5 hq8 h_1 h_2 h_3 h_4 h_5 h_6 h_7 h_8 h_9 h_10 h_11 h_46 h_65 h_66 h_70 h_75 h_1271 h_1282 h_1378 h_1379 h_1380 h_1381 h_1382 h_1383 h_1384 h_1385 h_1386 h_1387 h_1388 h_1389 h_1390 h_1391 h_1392 h_1394 h_1407 h_1409 h_1448 h_1449 h_1450 h_1451 hq6 hq7 h_12 h_21 h_37 h_1393 h_1405 h_1446 h_1447; omega) | omega, ⟨(Int.le_trans (by decide) h_1271.1), (Int.le_trans h_1271.2 (by decide))⟩, by decide, by decide⟩ ?_
          refine q_iconst rfl ?_
          refine v_zret rfl rfl (by decide) ?_
          refine bk_inl ?_
          refine v_if_eq_t (t := 41) rfl (by decide) (by decide) ?_
          refine q_vret rfl rfl ?_
          refine bk_inl ?_
          refine q_aload_n rfl rfl ?_
          refine q_dup rfl rfl ?_
          have kn_1455 : Hid (c_1441 41 7 = o0 + 1) := (hF_1443 41 7 (fun q => q.elim (fun h => absurd h.2 (ni rfl)) (fun q => q.elim (fun h => absurd h.2 (ni rfl)) (fun h => absurd h.2 (ni rfl))))).trans (up_e rfl)
          refine v_gi (z := 7) (v := o0 + 1) rfl rfl rfl (by decide) rfl rfl (hid kn_1455) ?_
          refine q_iconst rfl ?_
          refine v_isub (v := o0) rfl (by first | (clear ha2 hq0 hq1 hq2 hq3 hq4 hq5 hq8 h_1 h_2 h_3 h_4 h_5 h_6 h_7 h_8 h_9 h_10 h_11 h_46 h_65 h_66 h_70 h_75 h_1271 h_1282 h_1378 h_1379 h_1380 h_1381 h_1382 h_1383 h_1384 h_1385 h_1386 h_1387 h_1388 h_1389 h_1390 h_1391 h_1392 h_1394 h_1407 h_1409 h_1448 h_1449 h_1450 h_1451 h_1452 hq6 hq7 h_12 h_21 h_37 h_1393 h_1405 h_1446 h_1447; omega) | omega) ?_
          refine v_pi (z := 7) rfl rfl rfl (by decide) rfl rfl rfl (by decide) ?_
          refine q_aload_n rfl rfl ?_
          refine q_iload_n rfl rfl ?_
          refine q_iconst rfl ?_
          refine v_cv rfl rfl rfl rfl (by decide) ⟨⟨rfl, rfl⟩, by decide, rfl⟩ (Nat.le_of_ble_eq_true rfl) (Nat.le_of_ble_eq_true rfl) ?_
          refine q_aload_n rfl rfl ?_
          refine v_cv rfl rfl rfl rfl (by decide) ⟨⟨rfl, rfl⟩, by decide, rfl⟩ (Nat.le_of_ble_eq_true rfl) (Nat.le_of_ble_eq_true rfl) ?_
          refine q_aload_n rfl rfl ?_
          refine v_gi (z := 5) (v := c_71 1 5) rfl rfl rfl (by decide) rfl rfl (((up_n (by decide))).trans (hrb_hR_1445.2.1)) ?_
          refine q_iconst rfl ?_
          refine v_ic_ne_t (t := 12) rfl (by decide) ⟨by first | (clear ha2 hq0 hq1 hq2 hq3 hq4 hq5 hq8 h_1 h_2 h_3 h_4 h_5 h_6 h_7 h_8 h_9 h_10 h_11 h_46 h_65 h_66 h_70 h_75 h_1271 h_1282 h_1378 h_1379 h_1380 h_1381 h_1382 h_1383 h_1384 h_1385 h_1386 h_1387 h_1388 h_1389 h_1390 h_1391 h_1392 h_1394 h_1407 h_1409 h_1448 h_1449 h_1450 h_1451 hq6 hq7 h_12 h_21 h_37 h_1393 h_1405 h_1446 h_1447; omega) | omega, ⟨(Int.le_trans (by decide) h_1271.1), (Int.le_trans h_1271.2 (by decide))⟩, by decide, by decide⟩ ?_
          refine q_iconst rfl ?_
          refine v_zret rfl rfl (by decide) ?_
          refine bk_inl ?_
          refine v_if_ne_f (t := 8) rfl (by decide) (by decide) ?_
          refine q_vret rfl rfl ?_
          refine bk_inl ?_
          refine q_vret rfl rfl ?_
          refine bk_inl ?_
          refine q_goto (t := 154) rfl (by decide) ?_
          refine q_vret rfl rfl ?_
          have hI_1456 := iw_41_7 (v := o0) hI_1442 ⟨(rg_eq hr_o0 h_8).1, (rg_eq hr_o0 h_8).2⟩
          have h_1457 : (up c_1441 41 7 o0) 41 5 = c_71 1 5 := (((up_n (by decide))).trans (hrb_hR_1445.2.1))
          have h_1458 : (up c_1441 41 7 o0) 41 4 = c_1441 41 4 := (up_n (by decide))
          have h_1459 : (up c_1441 41 7 o0) 41 6 = c_71 1 4 := (((up_n (by decide))).trans (hrb_hR_1445.2.2.2))
          have kn_1460 : Hid (c_1395 41 29 = n0) := (hF_1397 41 29 (fun h => absurd h.2 (ni rfl))).trans (hr_n0)
          have kn_1461 : Hid (c_1400 41 29 = n0) := (hF_1402 41 29 (fun h => absurd h.2 (ni rfl))).trans (hid kn_1460)
          have kn_1462 : Hid (c_1410 41 29 = n0) := (hF_1412 41 29 (fun h => absurd h.2 (ni rfl))).trans (hid kn_1461)
          have kn_1463 : Hid (c_1415 41 29 = n0) := (hF_1417 41 29 (fun h => absurd h.2 (ni rfl))).trans (hid kn_1462)
          have kn_1464 : Hid (c_1441 41 29 = n0) := (hF_1443 41 29 (fun q => q.elim (fun h => absurd h.2 (ni rfl)) (fun q => q.elim (fun h => absurd h.2 (ni rfl)) (fun h => absurd h.2 (ni rfl))))).trans ((up_n (by decide)).trans ((up_n (by decide)).trans (hid kn_1463)))
          have h_1465 : (up c_1441 41 7 o0) 41 29 = n0 := ((up_n (by decide)).trans (hid kn_1464))
          have h_1466 : (up c_1441 41 7 o0) 41 7 = o0 := (up_e rfl)
          have h_1467 : (up c_1441 41 7 o0) 41 29 = n0 := ((up_n (by decide)).trans (hid kn_1464))
          exact K (up c_1441 41 7 o0)  hI_1456 (fun a j hm => (up_b (Decidable.or_iff_not_imp_left.mpr (fun h1 h2 => hm (Or.inr (Or.inr (Or.inr (Or.inl ⟨Decidable.not_not.mp h1, h2⟩))))))).trans ((hF_1443 a j (fun q => q.elim (fun h => hm (Or.inl h)) (fun q => q.elim (fun h => hm (Or.inr (Or.inl h))) (fun h => hm (Or.inr (Or.inr (Or.inl h))))))).trans ((up_b (Decidable.or_iff_not_imp_left.mpr (fun h1 h2 => hm (Or.inr (Or.inr (Or.inr (Or.inl ⟨Decidable.not_not.mp h1, h2⟩))))))).trans ((up_b (Decidable.or_iff_not_imp_left.mpr (fun h1 h2 => hm (Or.inl ⟨Decidable.not_not.mp h1, h2⟩)))).trans ((hF_1417 a j (fun h => hm (Or.inl h))).trans ((hF_1412 a j (fun h => hm (Or.inl h))).trans ((hF_1402 a j (fun h => hm (Or.inl h))).trans (hF_1397 a j (fun h => hm (Or.inl h)))))))))) (rt_i2 ⟨⟨by first | (clear ha2 hq0 hq1 hq2 hq3 hq4 hq5 hq8 h_1 h_2 h_3 h_4 h_5 h_6 h_7 h_8 h_9 h_10 h_11 h_46 h_65 h_66 h_70 h_75 h_1271 h_1282 h_1378 h_1380 h_1381 h_1382 h_1383 h_1384 h_1385 h_1386 h_1387 h_1388 h_1389 h_1390 h_1391 h_1392 h_1394 h_1407 h_1409 h_1448 h_1449 h_1450 h_1451 hq6 hq7 h_12 h_21 h_37 h_1393 h_1405 h_1446 h_1447; omega) | omega, by first | (clear ha2 hq0 hq1 hq2 hq3 hq4 hq5 hq8 h_1 h_2 h_3 h_4 h_5 h_6 h_7 h_8 h_9 h_10 h_11 h_46 h_65 h_66 h_70 h_75 h_1271 h_1282 h_1379 h_1380 h_1381 h_1382 h_1383 h_1384 h_1385 h_1386 h_1387 h_1388 h_1389 h_1390 h_1391 h_1392 h_1394 h_1407 h_1409 h_1448 h_1449 h_1450 h_1451 h_1452 hq6 hq7 h_12 h_21 h_37 h_1393 h_1405 h_1446 h_1447; omega) | omega⟩, by first | (clear ha2 hq0 hq1 hq2 hq3 hq4 hq5 hq8 h_1 h_2 h_3 h_4 h_5 h_6 h_7 h_8 h_9 h_10 h_11 h_46 h_65 h_66 h_70 h_75 h_1271 h_1282 h_1378 h_1379 h_1380 h_1381 h_1382 h_1383 h_1385 h_1386 h_1387 h_1388 h_1389 h_1390 h_1391 h_1392 h_1394 h_1407 h_1409 h_1448 h_1449 h_1450 h_1451 h_1452 hq6 hq7 h_12 h_21 h_37 h_1393 h_1405 h_1446 h_1447; omega) | omega, by first | (clear ha2 hq0 hq1 hq2 hq3 hq4 hq5 hq8 h_1 h_2 h_3 h_4 h_5 h_6 h_7 h_8 h_9 h_10 h_11 h_46 h_65 h_66 h_70 h_75 h_1271 h_1282 h_1378 h_1379 h_1380 h_1381 h_1382 h_1383 h_1385 h_1386 h_1387 h_1388 h_1389 h_1390 h_1391 h_1392 h_1394 h_1407 h_1409 h_1448 h_1449 h_1450 h_1451 hq6 hq7 h_12 h_21 h_37 h_1393 h_1405 h_1446 h_1447; omega) | omega, by first | (clear ha2 hq0 hq1 hq2 hq3 hq4 hq5 hq8 h_1 h_2 h_3 h_4 h_5 h_6 h_7 h_8 h_9 h_10 h_11 h_46 h_65 h_66 h_70 h_75 h_1271 h_1282 h_1378 h_1380 h_1381 h_1382 h_1383 h_1384 h_1385 h_1386 h_1387 h_1388 h_1389 h_1390 h_1391 h_1392 h_1394 h_1407 h_1409 h_1448 h_1449 h_1450 h_1451 h_1452 hq6 hq7 h_12 h_21 h_37 h_1393 h_1405 h_1446 h_1447; omega) | omega⟩) (Or.inr (Or.inl (by first | (clear ha2 hq0 hq1 hq2 hq3 hq4 hq5 hq8 h_1 h_2 h_3 h_4 h_5 h_6 h_7 h_8 h_9 h_10 h_11 h_46 h_65 h_66 h_70 h_75 h_1271 h_1282 h_1378 h_1380 h_1381 h_1382 h_1383 h_1384 h_1385 h_1386 h_1387 h_1388 h_1389 h_1390 h_1391 h_1392 h_1394 h_1407 h_1409 h_1448 h_1449 h_1450 h_1451 hq6 hq7 h_12 h_21 h_37 h_1393 h_1405 h_1446 h_1447; omega) | omega))) (by first | (clear ha2 hq0 hq1 hq3 hq4 hq5 hq8 h_1 h_2 h_3 h_4 h_5 h_6 h_7 h_8 h_9 h_10 h_11 h_46 h_65 h_66 h_70 h_75 h_1271 h_1282 h_1378 h_1379 h_1380 h_1381 h_1382 h_1383 h_1384 h_1385 h_1386 h_1387 h_1388 h_1389 h_1390 h_1391 h_1392 h_1394 h_1407 h_1409 h_1448 h_1449 h_1450 h_1451 h_1452 hq6 hq7 h_12 h_21 h_37 h_1393 h_1405 h_1446 h_1447; omega) | omega) (fun hz => absurd hz (by omega))
  · as_aux_lemma =>
      refine v_ic_lt_f (t := 94) rfl (by decide) ⟨by decide, (Int.not_lt.mp h_70), (Int.le_trans ha2.2 (by decide))⟩ ?_
      refine q_aload_n rfl rfl ?_
      refine q_iconst rfl ?_
      refine q_iload_n rfl rfl ?_
      refine v_cv rfl rfl rfl rfl (by decide) ⟨⟨rfl, rfl⟩, by decide, rfl⟩ (Nat.le_of_ble_eq_true rfl) (Nat.le_of_ble_eq_true rfl) ?_
      refine q_aload_n rfl rfl ?_
      refine v_gi (z := 4) (v := 0) rfl rfl rfl (by decide) rfl rfl (hz_68) ?_
      refine v_if_ne_f (t := 17) rfl (by decide) (by decide) ?_
      refine q_aload_n rfl rfl ?_
      refine q_iload_n rfl rfl ?_
      refine v_pi (z := 4) rfl rfl rfl (by decide) rfl rfl rfl (by decide) ?_
      refine q_aload_n rfl rfl ?_
      refine q_iload_n rfl rfl ?_
      refine v_pi (z := 5) rfl rfl rfl (by decide) rfl rfl rfl (by decide) ?_
      refine q_vret rfl rfl ?_
      refine bk_inl ?_
      refine q_aload_n rfl rfl ?_
      refine v_cv rfl rfl rfl rfl (by decide) ⟨⟨rfl, rfl⟩, by decide, rfl⟩ (Nat.le_of_ble_eq_true rfl) (Nat.le_of_ble_eq_true rfl) ?_
      refine q_aload_n rfl rfl ?_
      refine v_gi (z := 4) (v := 3) rfl rfl rfl (by decide) rfl rfl ((up_n (by decide)).trans (up_e rfl)) ?_
      refine v_if_ne_t (t := 11) rfl (by decide) (by decide) ?_
      refine q_iconst rfl ?_
      refine v_zret rfl rfl (by decide) ?_
      refine bk_inl ?_
      refine v_if_ne_f (t := 102) rfl (by decide) (by decide) ?_
      refine q_vret rfl rfl ?_
      have hI_1468 := iw_1_4 (v := 3) hI_63 ⟨by decide, by decide⟩
      have hI_1469 := iw_1_5 (v := (nx F e1 p0)) hI_1468 ⟨(Int.le_trans (by decide) (rg_be h_10 ((rg_eq hg_p0 h_5).1) ((rg_eq hg_e1 h_1).2)).1), (rg_be h_10 ((rg_eq hg_p0 h_5).1) ((rg_eq hg_e1 h_1).2)).2⟩
      intro hE_1470
      have hW : Wd P Q P P (up (up c_62 1 4 3) 1 5 (nx F e1 p0)) = Wd P Q P P m9 := (Prod.mk.inj (Prod.mk.inj hE_1470).2).1
      have h_1471 := ir_1_4 hJ9
      have h_1472 : m9 1 4 = 3 := wd_fv (z := 4) 4 rfl hW rfl rfl rfl rfl (by decide) ((up_n (by decide)).trans (up_e rfl)) ⟨by decide, by decide⟩ ⟨(Int.le_trans (by decide) h_1471.1), (Int.le_trans h_1471.2 (by decide))⟩
      have h_1473 := ir_1_2 hJ9
      have h_1474 : m9 1 2 = (ln F e1 (nx F e1 p0)) := wd_fv (z := 2) 2 rfl hW rfl rfl rfl rfl (by decide) ((up_n (by decide)).trans ((up_n (by decide)).trans (hz_67))) ⟨(Int.le_trans (by decide) (rg_be h_46 ((rg_be h_10 ((rg_eq hg_p0 h_5).1) ((rg_eq hg_e1 h_1).2)).1) ((rg_eq hg_e1 h_1).2)).1), (Int.le_trans (rg_be h_46 ((rg_be h_10 ((rg_eq hg_p0 h_5).1) ((rg_eq hg_e1 h_1).2)).1) ((rg_eq hg_e1 h_1).2)).2 (by decide))⟩ ⟨(Int.le_trans (by decide) h_1473.1), (Int.le_trans h_1473.2 (by decide))⟩
      have h_1475 := ir_1_5 hJ9
      have h_1476 : m9 1 5 = (nx F e1 p0) := wd_fv (z := 5) 5 rfl hW rfl rfl rfl rfl (by decide) (up_e rfl) ⟨(Int.le_trans (by decide) (rg_be h_10 ((rg_eq hg_p0 h_5).1) ((rg_eq hg_e1 h_1).2)).1), (Int.le_trans (rg_be h_10 ((rg_eq hg_p0 h_5).1) ((rg_eq hg_e1 h_1).2)).2 (by decide))⟩ ⟨(Int.le_trans (by decide) h_1475.1), (Int.le_trans h_1475.2 (by decide))⟩
      have kn_1477 : Hid (c_18 (A + 7) 5 = n0) := (hF_20 (A + 7) 5 (fun h => absurd h.1 (np hA rfl rfl))).trans (hg_n0)
      have kn_1478 : Hid (c_24 (A + 7) 5 = n0) := (hF_26 (A + 7) 5 (fun h => absurd h.1 (np hA rfl rfl))).trans (hid kn_1477)
      have kn_1479 : Hid (c_34 (A + 7) 5 = n0) := (hF_36 (A + 7) 5 (fun h => absurd h.1 (np hA rfl rfl))).trans (hid kn_1478)
      have kn_1480 : Hid (c_62 (A + 7) 5 = n0) := (hF_64 (A + 7) 5 (fun q => q.elim (fun h => absurd h.1 (np hA rfl rfl)) (fun q => q.elim (fun h => absurd h.1 (np hA rfl rfl)) (fun h => absurd h.1 (np hA rfl rfl))))).trans (hid kn_1479)
      have h_1481 := ir_p7_5 hJ9 hA
      have h_1482 : m9 (A + 7) 5 = n0 := wd_fv (z := 5) 5 rfl hW (ck_p7 hA) (ck_p7 hA) rfl rfl (by omega) ((up_c (np hA rfl rfl)).trans ((up_c (np hA rfl rfl)).trans (hid kn_1480))) ⟨(Int.le_trans (by decide) (rg_eq hg_n0 h_6).1), (Int.le_trans (rg_eq hg_n0 h_6).2 (by decide))⟩ ⟨(Int.le_trans (by decide) h_1481.1), (Int.le_trans h_1481.2 (by decide))⟩
      refine q_aload_n rfl rfl ?_
      refine v_cv rfl rfl rfl rfl (by decide) ⟨⟨rfl, rfl⟩, by decide, rfl⟩ (Nat.le_of_ble_eq_true rfl) (Nat.le_of_ble_eq_true rfl) ?_
      refine q_aload_n rfl rfl ?_
      have h_1483 := ir_41_5 hI
      have h_1484 := ir_41_4 hI
      have h_1485 := ir_41_6 hI
      have h_1486 := rt_ok hRt (by omega)
      have hro_hRt := rt_ok hRt (by omega)
      refine v_gi (z := 5) (v := (-1)) rfl rfl rfl (by decide) rfl rfl hro_hRt.2.1 ?_
      refine q_iconst rfl ?_
      refine v_ic_ne_f (t := 12) rfl (by decide) (by decide) ?_
      refine q_iconst rfl ?_
      refine q_goto (t := 13) rfl (by decide) ?_
      refine v_zret rfl rfl (by decide) ?_
      refine bk_inl ?_
      refine v_if_ne_t (t := 8) rfl (by decide) (by decide) ?_
      refine q_aload_n rfl rfl ?_
      have h_1487 : -2147483648 ≤ (H (nx F e1 p0)) ∧ (H (nx F e1 p0)) ≤ 2147483647 := by rw [← hH (nx F e1 p0)]; exact ir_43 hI (nx F e1 p0)
      have h_1488 := hU (nx F e1 p0) (by omega) (by omega)
      have h_1489 := hb_or (b := H) (e := e1) (r := (nx F e1 p0))
      have h_1490 := hb_bd (b := H) (e := e1) (r := (nx F e1 p0)) (lo := -2147483648) (hi := 2147483647) h_1487 (by decide)
      refine v_cv rfl rfl rfl rfl (by decide) ⟨⟨rfl, rfl⟩, by decide, rfl⟩ (Nat.le_of_ble_eq_true rfl) (Nat.le_of_ble_eq_true rfl) (f_154 (e1 := e1) (a9 := p0) (B := H) (r8 := (nx F e1 p0)) (r := (hb H e1 (nx F e1 p0))) hI ((hr_e1)) (((hro_hRt.2.2.1).trans ((hg_p0)))) (fun j => hH j) ((nx_tr hU (by first | (clear ha2 hq0 hq1 hq2 hq3 hq4 hq5 hq8 h_1 h_2 h_3 h_4 h_6 h_7 h_8 h_9 h_10 h_11 h_46 h_65 h_66 h_1471 h_1472 h_1473 h_1474 h_1475 h_1476 h_1481 h_1482 h_1483 h_1484 h_1485 h_1486 hq6 hq7 h_12 h_21 h_37; omega) | omega) (by first | (clear ha2 hq0 hq1 hq2 hq3 hq4 hq8 h_1 h_2 h_3 h_4 h_5 h_6 h_7 h_8 h_9 h_10 h_11 h_46 h_65 h_66 h_1471 h_1472 h_1473 h_1474 h_1475 h_1476 h_1481 h_1482 h_1483 h_1484 h_1485 h_1486 hq6 hq7 h_12 h_21 h_37; omega) | omega)).trans (rfl)) rfl (fun c_1491 hI_1492 hF_1493 h_1494 => ?_))
      refine bk_inl ?_
      refine v_bip rfl (by decide) ?_
      refine v_ic_ne_t (t := 45) rfl (by decide) ⟨by first | (clear ha2 hq0 hq1 hq2 hq3 hq8 h_3 h_4 h_5 h_6 h_7 h_8 h_9 h_11 h_65 h_66 h_1471 h_1472 h_1473 h_1474 h_1475 h_1481 h_1482 h_1483 h_1484 h_1485 h_1486; omega) | omega, ⟨h_1490.1, h_1490.2⟩, by decide, by decide⟩ ?_
      refine q_aload_n rfl rfl ?_
      have kn_1495 : Hid (c_1491 41 3 = e1) := (hF_1493 41 3 (fun h => absurd h.2 (ni rfl))).trans (hr_e1)
      refine v_cv rfl rfl rfl rfl (by decide) ⟨⟨rfl, rfl⟩, by decide, rfl⟩ (Nat.le_of_ble_eq_true rfl) (Nat.le_of_ble_eq_true rfl) (f_154 (e1 := e1) (a9 := (nx F e1 p0)) (B := H) (r8 := (nx F e1 p0)) (r := (hb H e1 (nx F e1 p0))) hI_1492 ((hid kn_1495)) ((h_1494)) (fun j => (hF_1493 43 j (fun h => absurd h.1 (nn rfl))).trans (hH j)) ((nx_tr hU (by first | (clear ha2 hq0 hq1 hq2 hq3 hq4 hq5 hq8 h_1 h_2 h_3 h_4 h_6 h_7 h_8 h_9 h_11 h_46 h_65 h_66 h_1471 h_1472 h_1473 h_1474 h_1475 h_1476 h_1481 h_1482 h_1483 h_1484 h_1485 h_1486 h_1487 h_1488 h_1490 hq6 hq7 h_12 h_21 h_37 h_1489; omega) | omega) (by first | (clear ha2 hq0 hq1 hq2 hq3 hq4 hq8 h_1 h_2 h_3 h_4 h_5 h_6 h_7 h_8 h_9 h_10 h_11 h_46 h_65 h_66 h_1471 h_1472 h_1473 h_1474 h_1475 h_1476 h_1481 h_1482 h_1483 h_1484 h_1485 h_1486 h_1487 h_1488 h_1490 hq6 hq7 h_12 h_21 h_37 h_1489; omega) | omega)).trans ((nx_z (by omega)))) rfl (fun c_1496 hI_1497 hF_1498 h_1499 => ?_))
      refine bk_inl ?_
      refine q_call rfl rfl rfl rfl (f_156 (a0 := (hb H e1 (nx F e1 p0))) hI_1497 (show (-2147483648) ≤ (hb H e1 (nx F e1 p0)) ∧ (hb H e1 (nx F e1 p0)) ≤ 2147483647 from h_1490) (fun y_1500 hy_1500 h_1501 => ?_))
      refine bk_inl ?_
      refine v_if_eq_t (t := 71) rfl (by decide) (by first | (clear ha2 hq0 hq1 hq2 hq3 hq8 h_3 h_4 h_5 h_6 h_7 h_8 h_9 h_11 h_65 h_66 h_1471 h_1472 h_1473 h_1474 h_1475 h_1481 h_1482 h_1483 h_1484 h_1485 h_1486; omega) | omega) ?_
      refine q_aload_n rfl rfl ?_
      have kn_1502 : Hid (c_1496 41 3 = e1) := (hF_1498 41 3 (fun h => absurd h.2 (ni rfl))).trans (hid kn_1495)
      have h_1503 := wv_bd (b := F) (r := (nx F e1 p0)) (l := (ln F e1 (nx F e1 p0))) (fun j h1 h2 => ⟨(ln_in (e := e1) (a := (nx F e1 p0)) h1 h2).1, (ln_in (e := e1) (a := (nx F e1 p0)) h1 h2).2.1⟩)
      have h_1504 := wr1_9 (b := F) (r := (nx F e1 p0)) (l := (ln F e1 (nx F e1 p0))) (by omega) (fun j h1 h2 => ⟨(ln_in (e := e1) (a := (nx F e1 p0)) h1 h2).1, (ln_in (e := e1) (a := (nx F e1 p0)) h1 h2).2.1⟩) (by omega)
      have h_1505 : (wv F (nx F e1 p0) (ln F e1 (nx F e1 p0))) = 441972 → (ln F e1 (nx F e1 p0)) - (nx F e1 p0) = 4 := wl_most (by omega) (fun j h1 h2 => ⟨(ln_in (e := e1) (a := (nx F e1 p0)) h1 h2).1, (ln_in (e := e1) (a := (nx F e1 p0)) h1 h2).2.1⟩)
      refine v_cv rfl rfl rfl rfl (by decide) ⟨⟨rfl, rfl⟩, by decide, rfl⟩ (Nat.le_of_ble_eq_true rfl) (Nat.le_of_ble_eq_true rfl) (f_157 (e1 := e1) (a9 := (nx F e1 p0)) (B := H) (r8 := (nx F e1 p0)) (L8 := (ln F e1 (nx F e1 p0))) (W8 := (wv F (nx F e1 p0) (ln F e1 (nx F e1 p0)))) hI_1497 ((hid kn_1502)) ((h_1499)) (fun j => ((hF_1498 43 j (fun h => absurd h.1 (nn rfl))).trans (hF_1493 43 j (fun h => absurd h.1 (nn rfl)))).trans (hH j)) ((nx_tr hU (by first | (clear ha2 hq0 hq1 hq2 hq3 hq4 hq5 hq8 h_1 h_2 h_3 h_4 h_6 h_7 h_8 h_9 h_11 h_46 h_65 h_66 h_1471 h_1472 h_1473 h_1474 h_1475 h_1476 h_1481 h_1482 h_1483 h_1484 h_1485 h_1486 h_1487 h_1488 h_1490 hq6 hq7 h_12 h_21 h_37 h_1489 h_1501; omega) | omega) (by first | (clear ha2 hq0 hq1 hq2 hq3 hq4 hq8 h_1 h_2 h_3 h_4 h_5 h_6 h_7 h_8 h_9 h_10 h_11 h_46 h_65 h_66 h_1471 h_1472 h_1473 h_1474 h_1475 h_1476 h_1481 h_1482 h_1483 h_1484 h_1485 h_1486 h_1487 h_1488 h_1490 hq6 hq7 h_12 h_21 h_37 h_1489 h_1501; omega) | omega)).trans ((nx_z (by omega)))) ((ln_tr hU (by first | (clear ha2 hq0 hq1 hq2 hq3 hq4 hq5 hq8 h_1 h_2 h_3 h_4 h_6 h_7 h_8 h_9 h_11 h_46 h_65 h_66 h_1471 h_1472 h_1473 h_1474 h_1475 h_1476 h_1481 h_1482 h_1483 h_1484 h_1485 h_1486 h_1487 h_1488 h_1490 hq6 hq7 h_12 h_21 h_37 h_1489 h_1501; omega) | omega) (by first | (clear ha2 hq0 hq1 hq2 hq3 hq4 hq8 h_1 h_2 h_3 h_4 h_5 h_6 h_7 h_8 h_9 h_10 h_11 h_46 h_65 h_66 h_1471 h_1472 h_1473 h_1474 h_1475 h_1476 h_1481 h_1482 h_1483 h_1484 h_1485 h_1486 h_1487 h_1488 h_1490 hq6 hq7 h_12 h_21 h_37 h_1489 h_1501; omega) | omega)).trans (rfl)) ((wv_tr hU (by first | (clear ha2 hq0 hq1 hq2 hq3 hq4 hq5 hq8 h_1 h_2 h_3 h_4 h_6 h_7 h_8 h_9 h_11 h_46 h_65 h_66 h_1471 h_1472 h_1473 h_1474 h_1475 h_1476 h_1481 h_1482 h_1483 h_1484 h_1485 h_1486 h_1487 h_1488 h_1490 h_1503 h_1505 hq6 hq7 h_12 h_21 h_37 h_1489 h_1501; omega) | omega) (by first | (clear ha2 hq0 hq1 hq2 hq3 hq4 hq8 h_1 h_2 h_3 h_4 h_5 h_6 h_7 h_8 h_9 h_10 h_11 h_65 h_66 h_1471 h_1472 h_1473 h_1474 h_1475 h_1476 h_1481 h_1482 h_1483 h_1484 h_1485 h_1486 h_1487 h_1488 h_1490 h_1503 h_1505 hq6 hq7 h_12 h_21 h_37 h_1489 h_1501; omega) | omega) (fun j h1 h2 => ⟨(ln_in (e := e1) (a := (nx F e1 p0)) h1 h2).1, (ln_in (e := e1) (a := (nx F e1 p0)) h1 h2).2.1⟩)).trans (rfl)) (fun c_1506 hI_1507 hF_1508 hz_1509 => ?_))
      refine bk_inl ?_
      refine q_ldc_w_s rfl rfl rfl (by decide) ?_
      refine q_call rfl rfl rfl rfl (s_158_20 ?_)
      refine bk_inl ?_
      refine v_ic_ne_t (t := 94) rfl (by decide) ⟨by first | (clear ha2 hq0 hq1 hq2 hq3 hq4 hq5 hq8 h_1 h_2 h_3 h_4 h_5 h_6 h_7 h_8 h_9 h_10 h_11 h_46 h_65 h_66 h_1471 h_1472 h_1473 h_1474 h_1475 h_1476 h_1481 h_1482 h_1483 h_1484 h_1485 h_1486 h_1487 h_1488 h_1490 h_1503 hq6 hq7 h_12 h_21 h_37 h_1489 h_1501; omega) | omega, ⟨(Int.le_trans (by decide) h_1503.1), (Int.le_trans h_1503.2 (by decide))⟩, by decide, by decide⟩ ?_
      refine q_aload_n rfl rfl ?_
      have kn_1510 : Hid (c_1506 41 3 = e1) := (hF_1508 41 3 (fun h => absurd h.2 (ni rfl))).trans (hid kn_1502)
      refine v_cv rfl rfl rfl rfl (by decide) ⟨⟨rfl, rfl⟩, by decide, rfl⟩ (Nat.le_of_ble_eq_true rfl) (Nat.le_of_ble_eq_true rfl) (f_157 (e1 := e1) (a9 := (nx F e1 p0)) (B := H) (r8 := (nx F e1 p0)) (L8 := (ln F e1 (nx F e1 p0))) (W8 := (wv F (nx F e1 p0) (ln F e1 (nx F e1 p0)))) hI_1507 ((hid kn_1510)) ((hz_1509)) (fun j => ((hF_1508 43 j (fun h => absurd h.1 (nn rfl))).trans ((hF_1498 43 j (fun h => absurd h.1 (nn rfl))).trans (hF_1493 43 j (fun h => absurd h.1 (nn rfl))))).trans (hH j)) ((nx_tr hU (by first | (clear ha2 hq0 hq1 hq2 hq3 hq4 hq5 hq8 h_1 h_2 h_3 h_4 h_6 h_7 h_8 h_9 h_11 h_46 h_65 h_66 h_1471 h_1472 h_1473 h_1474 h_1475 h_1476 h_1481 h_1482 h_1483 h_1484 h_1485 h_1486 h_1487 h_1488 h_1490 h_1503 h_1505 hq6 hq7 h_12 h_21 h_37 h_1489 h_1501; omega) | omega) (by first | (clear ha2 hq0 hq1 hq2 hq3 hq4 hq8 h_1 h_2 h_3 h_4 h_5 h_6 h_7 h_8 h_9 h_10 h_11 h_46 h_65 h_66 h_1471 h_1472 h_1473 h_1474 h_1475 h_1476 h_1481 h_1482 h_1483 h_1484 h_1485 h_1486 h_1487 h_1488 h_1490 h_1503 h_1505 hq6 hq7 h_12 h_21 h_37 h_1489 h_1501; omega) | omega)).trans ((nx_z (by omega)))) ((ln_tr hU (by first | (clear ha2 hq0 hq1 hq2 hq3 hq4 hq5 hq8 h_1 h_2 h_3 h_4 h_6 h_7 h_8 h_9 h_11 h_46 h_65 h_66 h_1471 h_1472 h_1473 h_1474 h_1475 h_1476 h_1481 h_1482 h_1483 h_1484 h_1485 h_1486 h_1487 h_1488 h_1490 h_1503 h_1505 hq6 hq7 h_12 h_21 h_37 h_1489 h_1501; omega) | omega) (by first | (clear ha2 hq0 hq1 hq2 hq3 hq4 hq8 h_1 h_2 h_3 h_4 h_5 h_6 h_7 h_8 h_9 h_10 h_11 h_46 h_65 h_66 h_1471 h_1472 h_1473 h_1474 h_1475 h_1476 h_1481 h_1482 h_1483 h_1484 h_1485 h_1486 h_1487 h_1488 h_1490 h_1503 h_1505 hq6 hq7 h_12 h_21 h_37 h_1489 h_1501; omega) | omega)).trans (rfl)) ((wv_tr hU (by first | (clear ha2 hq0 hq1 hq2 hq3 hq4 hq5 hq8 h_1 h_2 h_3 h_4 h_6 h_7 h_8 h_9 h_11 h_46 h_65 h_66 h_1471 h_1472 h_1473 h_1474 h_1475 h_1476 h_1481 h_1482 h_1483 h_1484 h_1485 h_1486 h_1487 h_1488 h_1490 h_1503 h_1505 hq6 hq7 h_12 h_21 h_37 h_1489 h_1501; omega) | omega) (by first | (clear ha2 hq0 hq1 hq2 hq3 hq4 hq8 h_1 h_2 h_3 h_4 h_5 h_6 h_7 h_8 h_9 h_10 h_11 h_65 h_66 h_1471 h_1472 h_1473 h_1474 h_1475 h_1476 h_1481 h_1482 h_1483 h_1484 h_1485 h_1486 h_1487 h_1488 h_1490 h_1503 h_1505 hq6 hq7 h_12 h_21 h_37 h_1489 h_1501; omega) | omega) (fun j h1 h2 => ⟨(ln_in (e := e1) (a := (nx F e1 p0)) h1 h2).1, (ln_in (e := e1) (a := (nx F e1 p0)) h1 h2).2.1⟩)).trans (rfl)) (fun c_1511 hI_1512 hF_1513 hz_1514 => ?_))
      refine bk_inl ?_
      refine q_ldc_w_s rfl rfl rfl (by decide) ?_
      refine q_call rfl rfl rfl rfl (s_158_21 ?_)
      refine bk_inl ?_
      refine v_ic_ne_f (t := 117) rfl (by decide) (by first | (clear ha2 hq0 hq1 hq2 hq3 hq4 hq5 hq8 h_1 h_2 h_3 h_4 h_5 h_6 h_7 h_8 h_9 h_10 h_11 h_46 h_65 h_66 h_1471 h_1472 h_1473 h_1474 h_1475 h_1476 h_1481 h_1482 h_1483 h_1484 h_1485 h_1486 h_1487 h_1488 h_1490 h_1503 hq6 hq7 h_12 h_21 h_37 h_1489 h_1501; omega) | omega) ?_
      refine q_aload_n rfl rfl ?_
      refine q_iconst rfl ?_
      refine v_bip rfl (by decide) ?_
      refine v_cv rfl rfl rfl rfl (by decide) ⟨⟨rfl, rfl⟩, by decide, rfl⟩ (Nat.le_of_ble_eq_true rfl) (Nat.le_of_ble_eq_true rfl) ?_
      refine q_aload_n rfl rfl ?_
      refine q_iload_n rfl rfl ?_
      refine v_cv rfl rfl rfl rfl (by decide) ⟨⟨rfl, rfl⟩, by decide, rfl⟩ (Nat.le_of_ble_eq_true rfl) (Nat.le_of_ble_eq_true rfl) ?_
      refine q_aload_n rfl rfl ?_
      refine v_cv rfl rfl rfl rfl (by decide) ⟨⟨rfl, rfl⟩, by decide, rfl⟩ (Nat.le_of_ble_eq_true rfl) (Nat.le_of_ble_eq_true rfl) ?_
      refine q_aload_n rfl rfl ?_
      have kn_1515 : Hid (c_1491 41 5 = (-1)) := (hF_1493 41 5 (fun h => absurd h.2 (ni rfl))).trans hro_hRt.2.1
      have kn_1516 : Hid (c_1496 41 5 = (-1)) := (hF_1498 41 5 (fun h => absurd h.2 (ni rfl))).trans (hid kn_1515)
      have kn_1517 : Hid (c_1506 41 5 = (-1)) := (hF_1508 41 5 (fun h => absurd h.2 (ni rfl))).trans (hid kn_1516)
      have kn_1518 : Hid (c_1511 41 5 = (-1)) := (hF_1513 41 5 (fun h => absurd h.2 (ni rfl))).trans (hid kn_1517)
      refine v_gi (z := 5) (v := (-1)) rfl rfl rfl (by decide) rfl rfl (hid kn_1518) ?_
      refine q_iconst rfl ?_
      refine v_ic_ne_f (t := 12) rfl (by decide) (by decide) ?_
      refine q_iconst rfl ?_
      refine q_goto (t := 13) rfl (by decide) ?_
      refine v_zret rfl rfl (by decide) ?_
      refine bk_inl ?_
      refine v_if_eq_f (t := 25) rfl (by decide) (by decide) ?_
      refine q_aload_n rfl rfl ?_
      have kn_1519 : Hid (c_1491 41 7 = o0) := (hF_1493 41 7 (fun h => absurd h.2 (ni rfl))).trans (hr_o0)
      have kn_1520 : Hid (c_1496 41 7 = o0) := (hF_1498 41 7 (fun h => absurd h.2 (ni rfl))).trans (hid kn_1519)
      have kn_1521 : Hid (c_1506 41 7 = o0) := (hF_1508 41 7 (fun h => absurd h.2 (ni rfl))).trans (hid kn_1520)
      have kn_1522 : Hid (c_1511 41 7 = o0) := (hF_1513 41 7 (fun h => absurd h.2 (ni rfl))).trans (hid kn_1521)
      refine v_gi (z := 7) (v := o0) rfl rfl rfl (by decide) rfl rfl (hid kn_1522) ?_
      refine v_bip rfl (by decide) ?_
      refine v_ic_ne_f (t := 25) rfl (by decide) (by first | (clear hq0 hq1 hq3 hq4 hq5 hq8 h_1 h_2 h_3 h_4 h_5 h_6 h_7 h_8 h_9 h_10 h_11 h_46 h_65 h_66 h_1471 h_1472 h_1473 h_1474 h_1475 h_1476 h_1481 h_1482 h_1483 h_1484 h_1485 h_1486 h_1487 h_1488 h_1490 h_1503 h_1505 hq6 hq7 h_12 h_21 h_37 h_1489 h_1501; omega) | omega) ?_
      refine q_aload_n rfl rfl ?_
      refine q_iconst rfl ?_
      refine q_aload_n rfl rfl ?_
      refine v_gi (z := 4) (v := (nx F e1 p0)) rfl rfl rfl (by decide) rfl rfl (hz_1514) ?_
      refine v_cv rfl rfl rfl rfl (by decide) ⟨⟨rfl, rfl⟩, by decide, rfl⟩ (Nat.le_of_ble_eq_true rfl) (Nat.le_of_ble_eq_true rfl) ?_
      refine q_aload_n rfl rfl ?_
      refine v_gi (z := 5) (v := (-1)) rfl rfl rfl (by decide) rfl rfl (hid kn_1518) ?_
      refine q_iconst rfl ?_
      refine v_ic_eq_t (t := 9) rfl (by decide) (by decide) ?_
      refine q_aload_n rfl rfl ?_
      refine q_iload_n rfl rfl ?_
      refine v_pi (z := 5) rfl rfl rfl (by decide) rfl rfl rfl (by decide) ?_
      refine q_aload_n rfl rfl ?_
      refine q_iload_n rfl rfl ?_
      refine v_pi (z := 6) rfl rfl rfl (by decide) rfl rfl rfl (by decide) ?_
      refine q_vret rfl rfl ?_
      refine bk_inl ?_
      refine q_aload_n rfl rfl ?_
      refine v_cv rfl rfl rfl rfl (by decide) ⟨⟨rfl, rfl⟩, by decide, rfl⟩ (Nat.le_of_ble_eq_true rfl) (Nat.le_of_ble_eq_true rfl) ?_
      refine q_aload_n rfl rfl ?_
      refine v_gi (z := 5) (v := (nx F e1 p0)) rfl rfl rfl (by decide) rfl rfl ((up_n (by decide)).trans (up_e rfl)) ?_
      refine q_iconst rfl ?_
      refine v_ic_ne_t (t := 12) rfl (by decide) ⟨(ne_rg (rg_be h_10 ((rg_eq hg_p0 h_5).1) ((rg_eq hg_e1 h_1).2)) (by decide)), ⟨(Int.le_trans (by decide) (rg_be h_10 ((rg_eq hg_p0 h_5).1) ((rg_eq hg_e1 h_1).2)).1), (Int.le_trans (rg_be h_10 ((rg_eq hg_p0 h_5).1) ((rg_eq hg_e1 h_1).2)).2 (by decide))⟩, by decide, by decide⟩ ?_
      refine q_iconst rfl ?_
      refine v_zret rfl rfl (by decide) ?_
      refine bk_inl ?_
      refine v_if_eq_t (t := 42) rfl (by decide) (by decide) ?_
      refine q_aload_n rfl rfl ?_
      refine q_dup rfl rfl ?_
      refine v_gi (z := 7) (v := o0) rfl rfl rfl (by decide) rfl rfl ((up_n (by decide)).trans ((up_n (by decide)).trans (hid kn_1522))) ?_
      refine q_iconst rfl ?_
      refine v_iadd (v := o0 + 1) rfl rfl ?_
      refine v_pi (z := 7) rfl rfl rfl (by decide) rfl rfl rfl (by decide) ?_
      refine q_vret rfl rfl ?_
      refine bk_inl ?_
      refine q_aload_n rfl rfl ?_
      refine v_bip rfl (by decide) ?_
      refine v_cv rfl rfl rfl rfl (by decide) ⟨⟨rfl, rfl⟩, by decide, rfl⟩ (Nat.le_of_ble_eq_true rfl) (Nat.le_of_ble_eq_true rfl) ?_
      refine q_aload_n rfl rfl ?_
      refine v_cv rfl rfl rfl rfl (by decide) ⟨⟨rfl, rfl⟩, by decide, rfl⟩ (Nat.le_of_ble_eq_true rfl) (Nat.le_of_ble_eq_true rfl) ?_
      refine q_aload_n rfl rfl ?_
      refine v_gi (z := 5) (v := (nx F e1 p0)) rfl rfl rfl (by decide) rfl rfl ((up_n (by decide)).trans ((up_n (by decide)).trans (up_e rfl))) ?_
      refine q_iconst rfl ?_
      refine v_ic_ne_t (t := 12) rfl (by decide) ⟨(ne_rg (rg_be h_10 ((rg_eq hg_p0 h_5).1) ((rg_eq hg_e1 h_1).2)) (by decide)), ⟨(Int.le_trans (by decide) (rg_be h_10 ((rg_eq hg_p0 h_5).1) ((rg_eq hg_e1 h_1).2)).1), (Int.le_trans (rg_be h_10 ((rg_eq hg_p0 h_5).1) ((rg_eq hg_e1 h_1).2)).2 (by decide))⟩, by decide, by decide⟩ ?_
      refine q_iconst rfl ?_
      refine v_zret rfl rfl (by decide) ?_
      refine bk_inl ?_
      refine v_if_eq_t (t := 24) rfl (by decide) (by decide) ?_
      refine q_aload_n rfl rfl ?_
      refine v_cv rfl rfl rfl rfl (by decide) ⟨⟨rfl, rfl⟩, by decide, rfl⟩ (Nat.le_of_ble_eq_true rfl) (Nat.le_of_ble_eq_true rfl) ?_
      refine q_aload_n rfl rfl ?_
      refine v_gi (z := 5) (v := (nx F e1 p0)) rfl rfl rfl (by decide) rfl rfl ((up_n (by decide)).trans ((up_n (by decide)).trans (up_e rfl))) ?_
      refine q_iconst rfl ?_
      refine v_ic_ne_t (t := 12) rfl (by decide) ⟨(ne_rg (rg_be h_10 ((rg_eq hg_p0 h_5).1) ((rg_eq hg_e1 h_1).2)) (by decide)), ⟨(Int.le_trans (by decide) (rg_be h_10 ((rg_eq hg_p0 h_5).1) ((rg_eq hg_e1 h_1).2)).1), (Int.le_trans (rg_be h_10 ((rg_eq hg_p0 h_5).1) ((rg_eq hg_e1 h_1).2)).2 (by decide))⟩, by decide, by decide⟩ ?_
      refine q_iconst rfl ?_
      refine v_zret rfl rfl (by decide) ?_
      refine bk_inl ?_
      refine v_if_eq_t (t := 41) rfl (by decide) (by decide) ?_
      refine q_vret rfl rfl ?_
      refine bk_inl ?_
      refine q_aload_n rfl rfl ?_
      have hI_1523 := iw_41_5 (v := (nx F e1 p0)) hI_1512 ⟨(Int.le_trans (by decide) (rg_be h_10 ((rg_eq hg_p0 h_5).1) ((rg_eq hg_e1 h_1).2)).1), (Int.le_trans (rg_be h_10 ((rg_eq hg_p0 h_5).1) ((rg_eq hg_e1 h_1).2)).2 (by decide))⟩
      have hI_1524 := iw_41_6 (v := 3) hI_1523 ⟨by decide, by decide⟩
      have hI_1525 := iw_41_7 (v := o0 + 1) hI_1524 ⟨by first | exact rgp_l (rg_eq hr_o0 h_8).1 (by decide) | omega, by first | (clear hq0 hq1 hq3 hq4 hq5 hq8 h_1 h_2 h_3 h_4 h_5 h_6 h_7 h_8 h_9 h_10 h_11 h_46 h_65 h_66 h_1471 h_1472 h_1473 h_1474 h_1475 h_1476 h_1481 h_1482 h_1483 h_1484 h_1485 h_1486 h_1487 h_1488 h_1490 h_1503 h_1505 hq6 hq7 h_12 h_21 h_37 h_1489 h_1501; omega) | omega⟩
      have h_1526 : ¬ (up (up (up c_1511 41 5 (nx F e1 p0)) 41 6 3) 41 7 (o0 + 1)) 41 5 = -1 := by rw [show (up (up (up c_1511 41 5 (nx F e1 p0)) 41 6 3) 41 7 (o0 + 1)) 41 5 = (nx F e1 p0) from ((up_n (by decide)).trans ((up_n (by decide)).trans (up_e rfl)))]; omega
      refine v_cv rfl rfl rfl rfl (by decide) ⟨⟨rfl, rfl⟩, by decide, rfl⟩ (Nat.le_of_ble_eq_true rfl) (Nat.le_of_ble_eq_true rfl) (n_174 hI_1525 (by omega) ?_)
      refine bk_inl ?_
      refine q_aload_n rfl rfl ?_
      refine v_bip rfl (by decide) ?_
      refine v_cv rfl rfl rfl rfl (by decide) ⟨⟨rfl, rfl⟩, by decide, rfl⟩ (Nat.le_of_ble_eq_true rfl) (Nat.le_of_ble_eq_true rfl) ?_
      refine q_aload_n rfl rfl ?_
      refine v_cv rfl rfl rfl rfl (by decide) ⟨⟨rfl, rfl⟩, by decide, rfl⟩ (Nat.le_of_ble_eq_true rfl) (Nat.le_of_ble_eq_true rfl) ?_
      refine q_aload_n rfl rfl ?_
      refine v_gi (z := 5) (v := (nx F e1 p0)) rfl rfl rfl (by decide) rfl rfl ((up_n (by decide)).trans ((up_n (by decide)).trans (up_e rfl))) ?_
      refine q_iconst rfl ?_
      refine v_ic_ne_t (t := 12) rfl (by decide) ⟨(ne_rg (rg_be h_10 ((rg_eq hg_p0 h_5).1) ((rg_eq hg_e1 h_1).2)) (by decide)), ⟨(Int.le_trans (by decide) (rg_be h_10 ((rg_eq hg_p0 h_5).1) ((rg_eq hg_e1 h_1).2)).1), (Int.le_trans (rg_be h_10 ((rg_eq hg_p0 h_5).1) ((rg_eq hg_e1 h_1).2)).2 (by decide))⟩, by decide, by decide⟩ ?_
      refine q_iconst rfl ?_
      refine v_zret rfl rfl (by decide) ?_
      refine bk_inl ?_
      refine v_if_eq_t (t := 24) rfl (by decide) (by decide) ?_
      refine q_aload_n rfl rfl ?_
      refine v_cv rfl rfl rfl rfl (by decide) ⟨⟨rfl, rfl⟩, by decide, rfl⟩ (Nat.le_of_ble_eq_true rfl) (Nat.le_of_ble_eq_true rfl) ?_
      refine q_aload_n rfl rfl ?_
      refine v_gi (z := 5) (v := (nx F e1 p0)) rfl rfl rfl (by decide) rfl rfl ((up_n (by decide)).trans ((up_n (by decide)).trans (up_e rfl))) ?_
      refine q_iconst rfl ?_
      refine v_ic_ne_t (t := 12) rfl (by decide) ⟨(ne_rg (rg_be h_10 ((rg_eq hg_p0 h_5).1) ((rg_eq hg_e1 h_1).2)) (by decide)), ⟨(Int.le_trans (by decide) (rg_be h_10 ((rg_eq hg_p0 h_5).1) ((rg_eq hg_e1 h_1).2)).1), (Int.le_trans (rg_be h_10 ((rg_eq hg_p0 h_5).1) ((rg_eq hg_e1 h_1).2)).2 (by decide))⟩, by decide, by decide⟩ ?_
      refine q_iconst rfl ?_
      refine v_zret rfl rfl (by decide) ?_
      refine bk_inl ?_
      refine v_if_eq_t (t := 41) rfl (by decide) (by decide) ?_
      refine q_vret rfl rfl ?_
      refine bk_inl ?_
      refine q_aload_n rfl rfl ?_
      have h_1527 : ¬ (up (up (up c_1511 41 5 (nx F e1 p0)) 41 6 3) 41 7 (o0 + 1)) 41 5 = -1 := by rw [show (up (up (up c_1511 41 5 (nx F e1 p0)) 41 6 3) 41 7 (o0 + 1)) 41 5 = (nx F e1 p0) from ((up_n (by decide)).trans ((up_n (by decide)).trans (up_e rfl)))]; omega
      refine v_cv rfl rfl rfl rfl (by decide) ⟨⟨rfl, rfl⟩, by decide, rfl⟩ (Nat.le_of_ble_eq_true rfl) (Nat.le_of_ble_eq_true rfl) (n_174 hI_1525 (by omega) ?_)
      refine bk_inl ?_
      refine q_aload_n rfl rfl ?_
      refine v_bip rfl (by decide) ?_
      refine v_cv rfl rfl rfl rfl (by decide) ⟨⟨rfl, rfl⟩, by decide, rfl⟩ (Nat.le_of_ble_eq_true rfl) (Nat.le_of_ble_eq_true rfl) ?_
      refine q_aload_n rfl rfl ?_
      refine v_cv rfl rfl rfl rfl (by decide) ⟨⟨rfl, rfl⟩, by decide, rfl⟩ (Nat.le_of_ble_eq_true rfl) (Nat.le_of_ble_eq_true rfl) ?_
      refine q_aload_n rfl rfl ?_
      refine v_gi (z := 5) (v := (nx F e1 p0)) rfl rfl rfl (by decide) rfl rfl ((up_n (by decide)).trans ((up_n (by decide)).trans (up_e rfl))) ?_
      refine q_iconst rfl ?_
      refine v_ic_ne_t (t := 12) rfl (by decide) ⟨(ne_rg (rg_be h_10 ((rg_eq hg_p0 h_5).1) ((rg_eq hg_e1 h_1).2)) (by decide)), ⟨(Int.le_trans (by decide) (rg_be h_10 ((rg_eq hg_p0 h_5).1) ((rg_eq hg_e1 h_1).2)).1), (Int.le_trans (rg_be h_10 ((rg_eq hg_p0 h_5).1) ((rg_eq hg_e1 h_1).2)).2 (by decide))⟩, by decide, by decide⟩ ?_
      refine q_iconst rfl ?_
      refine v_zret rfl rfl (by decide) ?_
      refine bk_inl ?_
      refine v_if_eq_t (t := 24) rfl (by decide) (by decide) ?_
      refine q_aload_n rfl rfl ?_
      refine v_cv rfl rfl rfl rfl (by decide) ⟨⟨rfl, rfl⟩, by decide, rfl⟩ (Nat.le_of_ble_eq_true rfl) (Nat.le_of_ble_eq_true rfl) ?_
      refine q_aload_n rfl rfl ?_
      refine v_gi (z := 5) (v := (nx F e1 p0)) rfl rfl rfl (by decide) rfl rfl ((up_n (by decide)).trans ((up_n (by decide)).trans (up_e rfl))) ?_
      refine q_iconst rfl ?_
      refine v_ic_ne_t (t := 12) rfl (by decide) ⟨(ne_rg (rg_be h_10 ((rg_eq hg_p0 h_5).1) ((rg_eq hg_e1 h_1).2)) (by decide)), ⟨(Int.le_trans (by decide) (rg_be h_10 ((rg_eq hg_p0 h_5).1) ((rg_eq hg_e1 h_1).2)).1), (Int.le_trans (rg_be h_10 ((rg_eq hg_p0 h_5).1) ((rg_eq hg_e1 h_1).2)).2 (by decide))⟩, by decide, by decide⟩ ?_
      refine q_iconst rfl ?_
      refine v_zret rfl rfl (by decide) ?_
      refine bk_inl ?_
      refine v_if_eq_t (t := 41) rfl (by decide) (by decide) ?_
      refine q_vret rfl rfl ?_
      refine bk_inl ?_
      refine q_aload_n rfl rfl ?_
      refine q_dup rfl rfl ?_
      refine v_gi (z := 7) (v := o0 + 1) rfl rfl rfl (by decide) rfl rfl (up_e rfl) ?_
      refine q_iconst rfl ?_
      refine v_isub (v := o0) rfl (by first | (clear ha2 hq0 hq1 hq2 hq3 hq4 hq5 hq8 h_1 h_2 h_3 h_4 h_5 h_6 h_7 h_8 h_9 h_10 h_11 h_46 h_65 h_66 h_1471 h_1472 h_1473 h_1474 h_1475 h_1476 h_1481 h_1482 h_1483 h_1484 h_1485 h_1486 h_1487 h_1488 h_1490 h_1503 h_1505 hq6 hq7 h_12 h_21 h_37 h_1489 h_1501; omega) | omega) ?_
      refine v_pi (z := 7) rfl rfl rfl (by decide) rfl rfl rfl (by decide) ?_
      refine q_aload_n rfl rfl ?_
      refine q_iload_n rfl rfl ?_
      refine q_iconst rfl ?_
      refine v_cv rfl rfl rfl rfl (by decide) ⟨⟨rfl, rfl⟩, by decide, rfl⟩ (Nat.le_of_ble_eq_true rfl) (Nat.le_of_ble_eq_true rfl) ?_
      refine q_aload_n rfl rfl ?_
      refine v_cv rfl rfl rfl rfl (by decide) ⟨⟨rfl, rfl⟩, by decide, rfl⟩ (Nat.le_of_ble_eq_true rfl) (Nat.le_of_ble_eq_true rfl) ?_
      refine q_aload_n rfl rfl ?_
      refine v_gi (z := 5) (v := (nx F e1 p0)) rfl rfl rfl (by decide) rfl rfl ((up_n (by decide)).trans ((up_n (by decide)).trans ((up_n (by decide)).trans (up_e rfl)))) ?_
      refine q_iconst rfl ?_
      refine v_ic_ne_t (t := 12) rfl (by decide) ⟨(ne_rg (rg_be h_10 ((rg_eq hg_p0 h_5).1) ((rg_eq hg_e1 h_1).2)) (by decide)), ⟨(Int.le_trans (by decide) (rg_be h_10 ((rg_eq hg_p0 h_5).1) ((rg_eq hg_e1 h_1).2)).1), (Int.le_trans (rg_be h_10 ((rg_eq hg_p0 h_5).1) ((rg_eq hg_e1 h_1).2)).2 (by decide))⟩, by decide, by decide⟩ ?_
      refine q_iconst rfl ?_
      refine v_zret rfl rfl (by decide) ?_
      refine bk_inl ?_
      refine v_if_ne_f (t := 8) rfl (by decide) (by decide) ?_
      refine q_vret rfl rfl ?_
      refine bk_inl ?_
      refine q_vret rfl rfl ?_
      refine bk_inl ?_
      refine q_goto (t := 154) rfl (by decide) ?_
      refine q_vret rfl rfl ?_
      have hI_1528 := iw_41_7 (v := o0) hI_1525 ⟨(rg_eq hr_o0 h_8).1, (rg_eq hr_o0 h_8).2⟩
      have h_1529 : (up (up (up (up c_1511 41 5 (nx F e1 p0)) 41 6 3) 41 7 (o0 + 1)) 41 7 o0) 41 5 = (nx F e1 p0) := ((up_n (by decide)).trans ((up_n (by decide)).trans ((up_n (by decide)).trans (up_e rfl))))
      have h_1530 : (up (up (up (up c_1511 41 5 (nx F e1 p0)) 41 6 3) 41 7 (o0 + 1)) 41 7 o0) 41 4 = (nx F e1 p0) := ((up_n (by decide)).trans ((up_n (by decide)).trans ((up_n (by decide)).trans ((up_n (by decide)).trans (hz_1514)))))
      have h_1531 : (up (up (up (up c_1511 41 5 (nx F e1 p0)) 41 6 3) 41 7 (o0 + 1)) 41 7 o0) 41 6 = 3 := ((up_n (by decide)).trans ((up_n (by decide)).trans (up_e rfl)))
      have kn_1532 : Hid (c_1491 41 29 = n0) := (hF_1493 41 29 (fun h => absurd h.2 (ni rfl))).trans (hr_n0)
      have kn_1533 : Hid (c_1496 41 29 = n0) := (hF_1498 41 29 (fun h => absurd h.2 (ni rfl))).trans (hid kn_1532)
      have kn_1534 : Hid (c_1506 41 29 = n0) := (hF_1508 41 29 (fun h => absurd h.2 (ni rfl))).trans (hid kn_1533)
      have kn_1535 : Hid (c_1511 41 29 = n0) := (hF_1513 41 29 (fun h => absurd h.2 (ni rfl))).trans (hid kn_1534)
      have h_1536 : (up (up (up (up c_1511 41 5 (nx F e1 p0)) 41 6 3) 41 7 (o0 + 1)) 41 7 o0) 41 29 = n0 := ((up_n (by decide)).trans ((up_n (by decide)).trans ((up_n (by decide)).trans ((up_n (by decide)).trans (hid kn_1535)))))
      have h_1537 : (up (up (up (up c_1511 41 5 (nx F e1 p0)) 41 6 3) 41 7 (o0 + 1)) 41 7 o0) 41 7 = o0 := (up_e rfl)
      have h_1538 : (up (up (up (up c_1511 41 5 (nx F e1 p0)) 41 6 3) 41 7 (o0 + 1)) 41 7 o0) 41 29 = n0 := ((up_n (by decide)).trans ((up_n (by decide)).trans ((up_n (by decide)).trans ((up_n (by decide)).trans (hid kn_1535)))))
      exact K (up (up (up (up c_1511 41 5 (nx F e1 p0)) 41 6 3) 41 7 (o0 + 1)) 41 7 o0)  hI_1528 (fun a j hm => (up_b (Decidable.or_iff_not_imp_left.mpr (fun h1 h2 => hm (Or.inr (Or.inr (Or.inr (Or.inl ⟨Decidable.not_not.mp h1, h2⟩))))))).trans ((up_b (Decidable.or_iff_not_imp_left.mpr (fun h1 h2 => hm (Or.inr (Or.inr (Or.inr (Or.inl ⟨Decidable.not_not.mp h1, h2⟩))))))).trans ((up_b (Decidable.or_iff_not_imp_left.mpr (fun h1 h2 => hm (Or.inr (Or.inr (Or.inl ⟨Decidable.not_not.mp h1, h2⟩)))))).trans ((up_b (Decidable.or_iff_not_imp_left.mpr (fun h1 h2 => hm (Or.inr (Or.inl ⟨Decidable.not_not.mp h1, h2⟩))))).trans ((hF_1513 a j (fun h => hm (Or.inl h))).trans ((hF_1508 a j (fun h => hm (Or.inl h))).trans ((hF_1498 a j (fun h => hm (Or.inl h))).trans (hF_1493 a j (fun h => hm (Or.inl h)))))))))) (rt_i2 ⟨⟨by first | (clear ha2 hq0 hq1 hq2 hq3 hq4 hq5 hq8 h_1 h_2 h_3 h_4 h_5 h_6 h_7 h_8 h_9 h_10 h_11 h_46 h_65 h_66 h_1471 h_1473 h_1474 h_1475 h_1476 h_1481 h_1482 h_1483 h_1484 h_1485 h_1486 h_1487 h_1488 h_1490 h_1503 h_1505 hq6 hq7 h_12 h_21 h_37 h_1489 h_1501; omega) | omega, by first | (clear ha2 hq0 hq1 hq2 hq3 hq4 hq5 hq8 h_1 h_2 h_3 h_4 h_5 h_6 h_7 h_8 h_9 h_10 h_11 h_46 h_65 h_66 h_1472 h_1473 h_1474 h_1475 h_1476 h_1481 h_1482 h_1483 h_1484 h_1485 h_1486 h_1487 h_1488 h_1490 h_1503 h_1505 hq6 hq7 h_12 h_21 h_37 h_1489 h_1501; omega) | omega⟩, by first | (clear ha2 hq0 hq1 hq2 hq3 hq4 hq5 hq8 h_1 h_2 h_3 h_4 h_5 h_6 h_7 h_8 h_9 h_10 h_11 h_46 h_65 h_66 h_1471 h_1472 h_1473 h_1474 h_1475 h_1481 h_1482 h_1483 h_1484 h_1485 h_1486 h_1487 h_1488 h_1490 h_1503 h_1505 hq6 hq7 h_12 h_21 h_37 h_1489 h_1501; omega) | omega, by first | (clear ha2 hq0 hq1 hq2 hq3 hq4 hq5 hq8 h_1 h_2 h_3 h_4 h_6 h_7 h_8 h_9 h_11 h_46 h_65 h_66 h_1471 h_1472 h_1473 h_1474 h_1475 h_1481 h_1482 h_1483 h_1484 h_1485 h_1486 h_1487 h_1488 h_1490 h_1503 h_1505 hq6 hq7 h_12 h_21 h_37 h_1489 h_1501; omega) | omega, by first | (clear ha2 hq0 hq1 hq2 hq3 hq4 hq5 hq8 h_1 h_2 h_3 h_4 h_5 h_6 h_7 h_8 h_9 h_10 h_11 h_46 h_65 h_66 h_1473 h_1474 h_1475 h_1476 h_1481 h_1482 h_1483 h_1484 h_1485 h_1486 h_1487 h_1488 h_1490 h_1503 h_1505 hq6 hq7 h_12 h_21 h_37 h_1489 h_1501; omega) | omega⟩) (Or.inr (Or.inl (by first | (clear ha2 hq0 hq1 hq2 hq3 hq4 hq5 hq8 h_1 h_2 h_3 h_4 h_5 h_6 h_7 h_8 h_9 h_10 h_11 h_46 h_65 h_66 h_1471 h_1473 h_1474 h_1475 h_1476 h_1481 h_1482 h_1483 h_1484 h_1485 h_1486 h_1487 h_1488 h_1490 h_1503 h_1505 hq6 hq7 h_12 h_21 h_37 h_1489 h_1501; omega) | omega))) (by first | (clear ha2 hq0 hq1 hq3 hq4 hq5 hq8 h_1 h_2 h_3 h_4 h_5 h_6 h_7 h_8 h_9 h_10 h_11 h_46 h_65 h_66 h_1471 h_1472 h_1473 h_1474 h_1475 h_1476 h_1481 h_1482 h_1483 h_1484 h_1485 h_1486 h_1487 h_1488 h_1490 h_1503 h_1505 hq6 hq7 h_12 h_21 h_37 h_1489 h_1501; omega) | omega) (fun hz => absurd hz (by omega))

