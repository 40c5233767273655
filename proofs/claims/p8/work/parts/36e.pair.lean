/-! ===== class and reference side by side 6 ===== -/
theorem q_c086682a1 {x0 x1 x2 : Int} (f0 : (x0 < x1 ∧ x2 = 40)) : ¬ x2 = 32 := by omega
theorem q_6818793ee {x0 : Int} (f0 : x0 < 6) : x0 + 1 ≤ 6 := by omega
theorem q_a1999738b {x0 x1 x2 : Int} (f0 : (x0 ≤ 150)) (f1 : (x1 < x0 ∧ x2 = 40)) : x1 < 600 := by omega
theorem q_a45d3d514 {x0 x1 : Int} (f0 : x0 < 6) (f1 : (x1 = x0)) : ¬ x1 = 6 := by omega
theorem q_b1cfbe133 {x0 x1 : Int} (f0 : x0 < 6) (f1 : (x1 = x0)) : x1 + 1 ≤ 7 := by omega
theorem q_a8f8175b5 {x0 x1 : Int} (f0 : (x0 = x1)) : (x0 + 1) = (x1 + 1) := by omega
theorem q_dc6f3f3c3 {x0 x1 x2 x3 : Int} (f0 : x0 ≤ x1 ∧ x1 ≤ x2) (f1 : (x3 ≤ x0)) : x3 ≤ (x1 + 1) := by omega
theorem q_2f04fc27c {x0 x1 x2 : Int} (f0 : (x0 < x1 ∧ x2 = 40)) : (x0 + 1) ≤ x1 := by omega
theorem qn_4df5db44f {A : Nat} (hA : A = 13 ∨ A = 25) : ¬ (((1 : Nat) = 1 ∧ (1 : Int) = 2) ∨ ((1 : Nat) = 1 ∧ (1 : Int) = 4) ∨ ((1 : Nat) = 1 ∧ (1 : Int) = 5) ∨ ((1 : Nat) = (A + 7) ∧ (1 : Int) = 5) ∨ (1 : Nat) = (A + 9)) := (fun q => q.elim (fun h => absurd h.2 (ni rfl)) (fun q => q.elim (fun h => absurd h.2 (ni rfl)) (fun q => q.elim (fun h => absurd h.2 (ni rfl)) (fun q => q.elim (fun h => absurd h.1 (pn hA rfl rfl)) (fun h => absurd h (pn hA rfl rfl))))))
theorem qn_0eac3bbbd {A : Nat} {j : Int} (hA : A = 13 ∨ A = 25) : ¬ (((2 : Nat) = 1 ∧ j = 2) ∨ ((2 : Nat) = 1 ∧ j = 4) ∨ ((2 : Nat) = 1 ∧ j = 5) ∨ ((2 : Nat) = (A + 7) ∧ j = 5) ∨ (2 : Nat) = (A + 9)) := (fun q => q.elim (fun h => absurd h.1 (nn rfl)) (fun q => q.elim (fun h => absurd h.1 (nn rfl)) (fun q => q.elim (fun h => absurd h.1 (nn rfl)) (fun q => q.elim (fun h => absurd h.1 (pn hA rfl rfl)) (fun h => absurd h (pn hA rfl rfl))))))
theorem q_cb7e5c914 {x0 x1 : Int} (f0 : (x0 = x1 + 1)) (f1 : 0 ≤ x1 ∧ x1 ≤ 6) : 0 ≤ x0 - 1 := by omega
theorem q_293b4c771 {x0 x1 x2 x3 x4 : Int} (f0 : x0 = x1) (f1 : (1 ≤ x1 ∧ x1 ≤ 3) ∧ x2 = x3 ∧ 0 ≤ x3 ∧ x4 = x1) : ¬ x0 = 0 := by omega
theorem q_5640541ca {x0 x1 : Int} (f0 : ¬ (x0 < 6)) (f1 : 0 ≤ x0 ∧ x0 ≤ 6) (f2 : (x1 = x0)) : x1 = 6 := by omega
theorem q_f2f34ba2a {x0 x1 : Int} (f0 : 0 ≤ x0 ∧ x0 ≤ 6) (f1 : (x1 = x0)) : x1 + 1 ≤ 7 := by omega
theorem q_03eff2842 {x0 x1 x2 x3 x4 : Int} (f0 : x0 ≤ x1 ∧ x1 ≤ x2) (f1 : x3 = x1) (f2 : 0 ≤ x4 ∧ x4 ≤ 600) (f3 : x4 = x0) : 0 ≤ x3 := by omega
set_option maxRecDepth 100000 in
set_option maxHeartbeats 4000000 in
theorem L_14_b {sc : List Int32} {e eg : Int} {d dh u ug P Q P2 Q2 A : Nat} {c m m9 : ME} {a2 e1 f0 g0 p0 n0 o0 : Int} {F H : Int → Int} {Z : AR → Prop} (hI : Iv u e P2 Q2 c) (hJ : Iv ug eg P Q m) (hJ9 : Iv ug eg P Q m9) (hA : A = 13 ∨ A = 25) (ha2 : 0 ≤ a2 ∧ a2 ≤ 6) (hq0 : (f0 = 0)) (hq1 : (g0 = (-1))) (hq2 : (o0 = a2)) (hq3 : (n0 ≤ p0)) (hq4 : (p0 ≤ e1)) (hq5 : (e1 ≤ 150)) (hq6 : ((nx F e1 p0) < e1 ∧ (F (nx F e1 p0)) = 40)) (hg_e1 : m 1 1 = e1) (hr_e1 : c 41 3 = e1) (hg_f0 : m 1 4 = f0) (hg_g0 : m 1 5 = g0) (hg_p0 : m 1 2 = p0) (hg_n0 : m (A + 7) 5 = n0) (hr_n0 : c 41 29 = n0) (hr_o0 : c 41 7 = o0) (hF : ∀ j : Int, m 2 j = F j) (hH : ∀ j : Int, c 43 j = H j) (hU : Ub F H) (hRt : Rt m c) (hr0 : Ce n0 (m (A + 9)) (c 50) (c 51)) (H13 : ∀ {d9 : Nat} {c m m9 : ME} {e1 f0 g0 p0 n0 o0 : Int} {Z : AR → Prop}, d ≤ d9 → a2 + 1 ≤ 6 → (Iv u e P2 Q2 c) → (Iv ug eg P Q m) → (Iv ug eg P Q m9) → (0 ≤ (a2 + 1) ∧ (a2 + 1) ≤ 6) → ((f0 = 0)) → ((g0 = (-1))) → ((o0 = (a2 + 1))) → ((n0 ≤ p0)) → ((p0 ≤ e1)) → ((e1 ≤ 150)) → (m 1 1 = e1) → (c 41 3 = e1) → (m 1 4 = f0) → (m 1 5 = g0) → (m 1 2 = p0) → (m (A + 7) 5 = n0) → (c 41 29 = n0) → (c 41 7 = o0) → (∀ j : Int, m 2 j = F j) → (∀ j : Int, c 43 j = H j) → (Ub F H) → (Rt m c) → (Ce n0 (m (A + 9)) (c 50) (c 51)) → (Wp sc (dh + 33) 13 0 [(0, .ref (A + 7)), (1, .ref 1), (2, vi (a2 + 1))] [] (Wd P Q P P m) 0 0 (fun q => q = (.inl (none), Wd P Q P P m9, 0, 0))) → (∀ (c2 : ME), Iv u e P2 Q2 c2 → (∀ (a : Nat) (j : Int), ¬ ((a = 41 ∧ j = 4) ∨ (a = 41 ∧ j = 5) ∨ (a = 41 ∧ j = 6) ∨ (a = 41 ∧ j = 7) ∨ (a = 41 ∧ j = 29) ∨ a = 50 ∨ a = 51) → c2 a j = c a j) → (Rt m9 c2) → ((m9 1 4 < 0) ∨ (m9 1 4 > 0) ∨ (m9 (A + 7) 5 = c2 41 29 ∧ c2 41 29 + p0 ≤ m9 1 2 + n0 ∧ m9 1 2 ≤ e1 ∧ m9 1 2 ≥ p0)) → ((c2 41 7 = (a2 + 1))) → (m9 1 4 = 0 → Ce (c2 41 29) (m9 (A + 9)) (c2 50) (c2 51)) → Z (.inl (none), Wd P2 Q2 P2 P2 c2, 0, 0)) → Wp sc (d9 + 32) 174 0 [(0, .ref 41)] [] (Wd P2 Q2 P2 P2 c) 0 0 Z) (hG : Wp sc (dh + 34) 14 0 [(0, .ref (A + 7)), (1, .ref 1), (2, vi a2)] [] (Wd P Q P P m) 0 0 (fun q => q = (.inl (none), Wd P Q P P m9, 0, 0))) (K : ∀ (c2 : ME), Iv u e P2 Q2 c2 → (∀ (a : Nat) (j : Int), ¬ ((a = 41 ∧ j = 4) ∨ (a = 41 ∧ j = 5) ∨ (a = 41 ∧ j = 6) ∨ (a = 41 ∧ j = 7) ∨ (a = 41 ∧ j = 29) ∨ a = 50 ∨ a = 51) → c2 a j = c a j) → (Rt m9 c2) → ((m9 1 4 < 0) ∨ (m9 1 4 > 0) ∨ (m9 (A + 7) 5 = c2 41 29 ∧ c2 41 29 + p0 ≤ m9 1 2 + n0 ∧ m9 1 2 ≤ e1 ∧ m9 1 2 ≥ p0)) → ((c2 41 7 = a2)) → (m9 1 4 = 0 → Ce (c2 41 29) (m9 (A + 9)) (c2 50) (c2 51)) → Z (.inl (none), Wd P2 Q2 P2 P2 c2, 0, 0)) : Wp sc (d + 34) 176 0 [(0, .ref 41)] [] (Wd P2 Q2 P2 P2 c) 0 0 Z := by
  have hP := iv_P hJ
  have hQ := iv_Q hJ
  have h_1 := ir_1_1 hJ
  have h_2 := ir_41_3 hI
  have h_3 := ir_1_4 hJ
  have h_4 := ir_1_5 hJ
  have h_5 := ir_1_2 hJ
  have h_6 := ir_p7_5 hJ hA
  have h_7 := ir_41_29 hI
  have h_8 := ir_41_7 hI
  refine gh hG (q_aload_n c_14_0 rfl ?_)
  have h_9 : -2147483648 ≤ (F p0) ∧ (F p0) ≤ 2147483647 := by rw [← hF p0]; exact ir_2 hJ p0
  have h_10 := nx_be (b := F) (e := e1) (a := p0) (by first | exact q_eb7e24553 hq4 | omega)
  have h_11 : -2147483648 ≤ (F (nx F e1 p0)) ∧ (F (nx F e1 p0)) ≤ 2147483647 := by rw [← hF (nx F e1 p0)]; exact ir_2 hJ (nx F e1 p0)
  have h_12 := nx_n (b := F) (e := e1) (a := p0)
  refine v_cv c_14_1 km_0_68 rfl rfl (Nat.le_of_ble_eq_true rfl) ⟨⟨rfl, rfl⟩, Nat.le_of_ble_eq_true rfl, rfl⟩ (Nat.le_of_ble_eq_true rfl) (Nat.le_of_ble_eq_true rfl) (f_6 (e1 := e1) (a9 := p0) (B := F) (r8 := (nx F e1 p0)) hJ ((hg_e1)) ((hg_p0)) (fun j => hF j) rfl (fun c_13 hI_14 hF_15 h_16 hz_17 => by exfalso; first | (clear ha2 hq0 hq1 hq2 hq3 hq4 hq5 h_1 hg_e1 h_2 hr_e1 h_3 hg_f0 h_4 hg_g0 h_5 hg_p0 h_6 hg_n0 h_7 hr_n0 h_8 hr_o0 h_9 h_10 h_11 h_12; omega) | omega) (fun c_18 hI_19 hF_20 h_21 hz_22 => (bk_inl (v_if_eq_t (t := 19) c_14_4 rfl (by decide) (q_aload_n c_14_19 rfl ?_)))))
  have kn_23 : Hid (c_18 1 1 = e1) := (hF_20 1 1 (fun h => absurd h.2 (ni rfl))).trans (hg_e1)
  refine v_cv c_14_20 km_0_75 rfl rfl (Nat.le_of_ble_eq_true rfl) ⟨⟨rfl, rfl⟩, Nat.le_of_ble_eq_true rfl, rfl⟩ (Nat.le_of_ble_eq_true rfl) (Nat.le_of_ble_eq_true rfl) (f_3 (e1 := e1) (a9 := (nx F e1 p0)) (B := F) (r8 := (nx F e1 p0)) hI_19 ((hid kn_23)) ((hz_22)) (fun j => (hF_20 2 j (fun h => absurd h.1 (nn rfl))).trans (hF j)) (nx_z (Or.inr (by first | exact q_c086682a1 hq6 | omega))) (fun c_24 hI_25 hF_26 hz_27 => (bk_inl (q_istore_n c_14_23 (Nat.le_of_ble_eq_true rfl) (q_aload_n c_14_24 rfl (q_ldc_s c_14_25 rfl rfl (by decide) ?_))))))
  have kn_28 : Hid (c_24 1 1 = e1) := (hF_26 1 1 (fun h => absurd h.2 (ni rfl))).trans (hid kn_23)
  refine v_cv c_14_27 km_0_55 rfl rfl (Nat.le_of_ble_eq_true rfl) ⟨⟨rfl, rfl⟩, Nat.le_of_ble_eq_true rfl, rfl⟩ (Nat.le_of_ble_eq_true rfl) (Nat.le_of_ble_eq_true rfl) (f_4_0 (e1 := e1) (a9 := (nx F e1 p0)) (B := F) (r8 := (nx F e1 p0)) hI_25 ((hid kn_28)) ((hz_27)) (fun j => ((hF_26 2 j (fun h => absurd h.1 (nn rfl))).trans (hF_20 2 j (fun h => absurd h.1 (nn rfl)))).trans (hF j)) (nx_z (Or.inr (by first | exact q_c086682a1 hq6 | omega))) (fun c_29 hI_30 hF_31 h_32 hz_33 => (bk_inl (q_iconst c_14_30 (v_ic_eq_f (t := 38) c_14_31 rfl (by decide) (q_iconst c_14_34 (q_goto (t := 39) c_14_35 rfl (q_istore c_14_39 (Nat.le_of_ble_eq_true rfl) (q_iload c_14_41 rfl ?_)))))))) (fun c_34 hI_35 hF_36 h_37 hz_38 => by exfalso; omega))
  refine v_if_eq_f (t := 50) c_14_43 rfl (by decide) (q_iconst c_14_46 (q_goto (t := 56) c_14_47 rfl (q_istore c_14_56 (Nat.le_of_ble_eq_true rfl) (q_iload c_14_58 rfl (q_iconst c_14_60 (v_ic_eq_t (t := 82) c_14_61 rfl (by decide) (q_iload_n c_14_82 rfl ?_)))))))
  refine v_bip c_14_83 (by decide) ?_
  by_cases h_39 : a2 < 6
  · refine v_ic_lt_t (t := 94) c_14_85 rfl ⟨(Int.le_trans (by decide) ha2.1), h_39, by decide⟩ (q_aload_n c_14_94 rfl (v_cv c_14_95 km_0_40 rfl rfl (Nat.le_of_ble_eq_true rfl) ⟨⟨rfl, rfl⟩, Nat.le_of_ble_eq_true rfl, rfl⟩ (Nat.le_of_ble_eq_true rfl) (Nat.le_of_ble_eq_true rfl) (q_aload_n c_2_0 rfl ?_)))
    have kn_40 : Hid (c_18 1 4 = f0) := (hF_20 1 4 (fun h => absurd h.2 (ni rfl))).trans (hg_f0)
    have kn_41 : Hid (c_24 1 4 = f0) := (hF_26 1 4 (fun h => absurd h.2 (ni rfl))).trans (hid kn_40)
    have kn_42 : Hid (c_29 1 4 = f0) := (hF_31 1 4 (fun h => absurd h.2 (ni rfl))).trans (hid kn_41)
    refine v_gi (z := 4) (v := f0) c_2_1 kf_5_38 rfl (Nat.le_of_ble_eq_true rfl) rfl rfl (hid kn_42) (v_if_ne_f (t := 11) c_2_4 rfl (by first | exact q_f9c88a064 hq0 | omega) (q_iconst c_2_7 (q_goto (t := 12) c_2_8 rfl (v_zret c_2_12 rfl (by decide) (bk_inl (v_if_ne_t (t := 102) c_14_98 rfl (by decide) (q_iload c_14_102 rfl ?_)))))))
    refine v_if_eq_f (t := 124) c_14_104 rfl (by decide) (q_aload_n c_14_107 rfl (q_aload_n c_14_108 rfl (q_iload_n c_14_109 rfl (q_iconst c_14_110 (v_iadd (v := a2 + 1) c_14_111 rfl (v_cv c_14_112 km_0_31 rfl (ck_p7 hA) (a68 hA rfl) ⟨⟨rfl, rfl⟩, by decide, rfl⟩ (Nat.le_of_ble_eq_true rfl) (Nat.le_of_ble_eq_true rfl) (fn_of (r_13 (a2 := a2 + 1) hI_30 hA (show 0 ≤ a2 + 1 ∧ a2 + 1 ≤ 6 from ⟨by first | exact rgp_l ha2.1 (by decide) | omega, by first | exact q_6818793ee h_39 | omega⟩) (fun c_43 hI_44 hF_45 => ?_)))))))))
    intro hG_46
    refine bk_inl (q_aload_n c_14_115 rfl (q_ldc_s c_14_116 rfl rfl (by decide) ?_))
    have h_47 := ir_1_4 hI_44
    by_cases h_48 : c_43 1 4 = 0
    · skip
      refine v_cv c_14_118 km_0_92 rfl rfl (Nat.le_of_ble_eq_true rfl) ⟨⟨rfl, rfl⟩, Nat.le_of_ble_eq_true rfl, rfl⟩ (Nat.le_of_ble_eq_true rfl) (Nat.le_of_ble_eq_true rfl) (fn_of (s_11 hI_44 (q := 2) (nt := 1) (by decide) (by decide) (by decide) (fun c_49 hI_50 hF_51 => ?_)))
      intro hG_52
      refine bk_inl (q_goto (t := 171) c_14_121 rfl (q_vret rfl rfl ?_))
      intro hE_53
      have hW : Wd P Q P P c_49 = Wd P Q P P m9 := (Prod.mk.inj (Prod.mk.inj hE_53).2).1
      have h_54 := ir_1_4 hI_50
      have h_55 := ir_1_4 hJ9
      have h_56 : m9 1 4 = c_49 1 4 := wd_fv (z := 4) 4 rfl hW rfl rfl rfl rfl (by decide) rfl ⟨(Int.le_trans (by decide) h_54.1), (Int.le_trans h_54.2 (by decide))⟩ ⟨(Int.le_trans (by decide) h_55.1), (Int.le_trans h_55.2 (by decide))⟩
      have h_57 := ir_1_2 hI_50
      have h_58 := ir_1_2 hJ9
      have h_59 : m9 1 2 = c_49 1 2 := wd_fv (z := 2) 2 rfl hW rfl rfl rfl rfl (by decide) rfl ⟨(Int.le_trans (by decide) h_57.1), (Int.le_trans h_57.2 (by decide))⟩ ⟨(Int.le_trans (by decide) h_58.1), (Int.le_trans h_58.2 (by decide))⟩
      have h_60 := ir_1_5 hI_50
      have h_61 := ir_1_5 hJ9
      have h_62 : m9 1 5 = c_49 1 5 := wd_fv (z := 5) 5 rfl hW rfl rfl rfl rfl (by decide) rfl ⟨(Int.le_trans (by decide) h_60.1), (Int.le_trans h_60.2 (by decide))⟩ ⟨(Int.le_trans (by decide) h_61.1), (Int.le_trans h_61.2 (by decide))⟩
      have h_63 := ir_p7_5 hI_44 hA
      have kn_64 : Hid (c_49 (A + 7) 5 = c_43 (A + 7) 5) := hF_51 (A + 7) 5 (qn_3e7b2eb2a hA)
      have h_65 := ir_p7_5 hJ9 hA
      have h_66 : m9 (A + 7) 5 = c_43 (A + 7) 5 := wd_fv (z := 5) 5 rfl hW (ck_p7 hA) (ck_p7 hA) rfl rfl (a68 hA rfl) (hid kn_64) ⟨by first | exact q_7c38ad3f6 h_63 | omega, by first | exact q_b7d7f2b1a h_63 | omega⟩ ⟨(Int.le_trans (by decide) h_65.1), (Int.le_trans h_65.2 (by decide))⟩
      refine q_aload_n c_176_0 rfl (v_cv c_176_1 km_8_131 rfl rfl (Nat.le_of_ble_eq_true rfl) ⟨⟨rfl, rfl⟩, Nat.le_of_ble_eq_true rfl, rfl⟩ (Nat.le_of_ble_eq_true rfl) (Nat.le_of_ble_eq_true rfl) (q_aload_n c_152_0 rfl ?_))
      have h_67 := ir_41_5 hI
      have h_68 := ir_41_4 hI
      have h_69 := ir_41_6 hI
      have h_70 := rt_ok hRt (by first | exact q_2cabce820 h_3 hg_f0 hq0 | omega)
      have hro_hRt := rt_ok hRt (by first | exact q_f9c88a064 hq0 | omega)
      refine v_gi (z := 5) (v := (-1)) c_152_1 kf_8_102 rfl (Nat.le_of_ble_eq_true rfl) rfl rfl hro_hRt.2.1 (q_iconst c_152_4 (v_ic_ne_f (t := 12) c_152_5 rfl (by decide) (q_iconst c_152_8 (q_goto (t := 13) c_152_9 rfl (v_zret c_152_13 rfl (by decide) (bk_inl (v_if_ne_t (t := 8) c_176_4 rfl (by decide) ?_)))))))
      refine q_aload_n c_176_8 rfl ?_
      have h_71 : -2147483648 ≤ (H (nx F e1 p0)) ∧ (H (nx F e1 p0)) ≤ 2147483647 := by rw [← hH (nx F e1 p0)]; exact ir_43 hI (nx F e1 p0)
      have h_72 := hU (nx F e1 p0) ((rg_be h_10 ((rg_eq hg_p0 h_5).1) ((rg_eq hg_e1 h_1).2)).1) (by first | exact q_a1999738b hq5 hq6 | omega)
      have h_73 := hb_or (b := H) (e := e1) (r := (nx F e1 p0))
      have h_74 := hb_bd (b := H) (e := e1) (r := (nx F e1 p0)) (lo := -2147483648) (hi := 2147483647) h_71 (by decide)
      refine v_cv c_176_9 km_8_114 rfl rfl (Nat.le_of_ble_eq_true rfl) ⟨⟨rfl, rfl⟩, Nat.le_of_ble_eq_true rfl, rfl⟩ (Nat.le_of_ble_eq_true rfl) (Nat.le_of_ble_eq_true rfl) (f_154 (e1 := e1) (a9 := p0) (B := H) (r8 := (nx F e1 p0)) (r := (hb H e1 (nx F e1 p0))) hI ((hr_e1)) (((hro_hRt.2.2.1).trans ((hg_p0)))) (fun j => hH j) ((nx_tr hU ((rg_eq hg_p0 h_5).1) ((rg_eq hg_e1 h_1).2)).trans (rfl)) rfl (fun c_75 hI_76 hF_77 h_78 => (bk_inl (v_bip c_176_12 (by decide) (v_ic_ne_f (t := 45) c_176_14 rfl (by first | (clear ha2 hq0 hq1 hq2 hq3 hq4 hq5 hq6 h_1 hg_e1 h_2 hr_e1 h_3 hg_f0 h_4 hg_g0 h_5 hg_p0 h_6 hg_n0 h_7 hr_n0 h_8 hr_o0 h_9 h_10 h_11 h_39 h_47 h_48 h_54 h_55 h_56 h_57 h_58 h_59 h_60 h_61 h_62 h_63 h_65 h_66 h_67 h_68 h_69 h_70 h_71 h_74 h_12 h_21; omega) | omega) (q_aload_n c_176_17 rfl (q_iconst c_176_18 (v_cv c_176_19 km_8_248 rfl rfl (Nat.le_of_ble_eq_true rfl) ⟨⟨rfl, rfl⟩, Nat.le_of_ble_eq_true rfl, rfl⟩ (Nat.le_of_ble_eq_true rfl) (Nat.le_of_ble_eq_true rfl) (q_aload_n c_171_0 rfl ?_)))))))))
      refine v_cv c_171_1 km_8_131 rfl rfl (Nat.le_of_ble_eq_true rfl) ⟨⟨rfl, rfl⟩, Nat.le_of_ble_eq_true rfl, rfl⟩ (Nat.le_of_ble_eq_true rfl) (Nat.le_of_ble_eq_true rfl) (q_aload_n c_152_0 rfl ?_)
      have kn_79 : Hid (c_75 41 5 = (-1)) := (hF_77 41 5 (fun h => absurd h.2 (ni rfl))).trans hro_hRt.2.1
      refine v_gi (z := 5) (v := (-1)) c_152_1 kf_8_102 rfl (Nat.le_of_ble_eq_true rfl) rfl rfl (hid kn_79) (q_iconst c_152_4 (v_ic_ne_f (t := 12) c_152_5 rfl (by decide) (q_iconst c_152_8 (q_goto (t := 13) c_152_9 rfl (v_zret c_152_13 rfl (by decide) (bk_inl (v_if_eq_f (t := 25) c_171_4 rfl (by decide) ?_)))))))
      refine q_aload_n c_171_7 rfl ?_
      have kn_80 : Hid (c_75 41 7 = o0) := (hF_77 41 7 (fun h => absurd h.2 (ni rfl))).trans (hr_o0)
      refine v_gi (z := 7) (v := o0) c_171_8 kf_8_142 rfl (Nat.le_of_ble_eq_true rfl) rfl rfl (hid kn_80) (v_bip c_171_11 (by decide) (v_ic_ne_t (t := 25) c_171_13 rfl ⟨by first | exact q_a45d3d514 h_39 hq2 | omega, ⟨(Int.le_trans (by decide) (rg_eq hr_o0 h_8).1), (Int.le_trans (rg_eq hr_o0 h_8).2 (by decide))⟩, by decide, by decide⟩ (q_aload_n c_171_25 rfl (v_cv c_171_26 km_8_131 rfl rfl (Nat.le_of_ble_eq_true rfl) ⟨⟨rfl, rfl⟩, Nat.le_of_ble_eq_true rfl, rfl⟩ (Nat.le_of_ble_eq_true rfl) (Nat.le_of_ble_eq_true rfl) (q_aload_n c_152_0 rfl (v_gi (z := 5) (v := (-1)) c_152_1 kf_8_102 rfl (Nat.le_of_ble_eq_true rfl) rfl rfl (hid kn_79) (q_iconst c_152_4 ?_)))))))
      refine v_ic_ne_f (t := 12) c_152_5 rfl (by decide) (q_iconst c_152_8 (q_goto (t := 13) c_152_9 rfl (v_zret c_152_13 rfl (by decide) (bk_inl (v_if_eq_f (t := 42) c_171_29 rfl (by decide) (q_aload_n c_171_32 rfl (q_dup c_171_33 rfl ?_)))))))
      refine v_gi (z := 4) (v := (nx F e1 p0)) c_171_34 kf_8_108 rfl (Nat.le_of_ble_eq_true rfl) rfl rfl (h_78) (q_iload_n c_171_37 rfl (v_iadd (v := (nx F e1 p0) + 1) c_171_38 rfl (v_pi (z := 4) c_171_39 kf_8_108 rfl (Nat.le_of_ble_eq_true rfl) rfl rfl rfl (by decide) (q_aload_n c_171_42 rfl (q_dup c_171_43 rfl (v_gi (z := 7) (v := o0) c_171_44 kf_8_142 rfl (Nat.le_of_ble_eq_true rfl) rfl rfl ((up_n (by decide)).trans (hid kn_80)) (q_iconst c_171_47 ?_)))))))
      refine v_iadd (v := o0 + 1) c_171_48 rfl (v_pi (z := 7) c_171_49 kf_8_142 rfl (Nat.le_of_ble_eq_true rfl) rfl rfl rfl (by decide) (q_vret rfl rfl (bk_inl (q_aload_n c_176_22 rfl ?_))))
      have hI_81 := iw_41_4 (v := (nx F e1 p0) + 1) hI_76 ⟨by first | exact rgp_l (rg_be h_10 ((rg_eq hg_p0 h_5).1) ((rg_eq hg_e1 h_1).2)).1 (by decide) | omega, by first | exact rgp_h (rg_be h_10 ((rg_eq hg_p0 h_5).1) ((rg_eq hg_e1 h_1).2)).2 (by decide) | omega⟩
      have hI_82 := iw_41_7 (v := o0 + 1) hI_81 ⟨by first | exact rgp_l (rg_eq hr_o0 h_8).1 (by decide) | omega, by first | exact q_b1cfbe133 h_39 hq2 | omega⟩
      have kn_83 : Hid (c_29 1 1 = e1) := (hF_31 1 1 (fun h => absurd h.2 (ni rfl))).trans (hid kn_28)
      have kn_84 : Hid (c_75 41 3 = e1) := (hF_77 41 3 (fun h => absurd h.2 (ni rfl))).trans (hr_e1)
      have kn_85 : Hid (c_18 1 5 = g0) := (hF_20 1 5 (fun h => absurd h.2 (ni rfl))).trans (hg_g0)
      have kn_86 : Hid (c_24 1 5 = g0) := (hF_26 1 5 (fun h => absurd h.2 (ni rfl))).trans (hid kn_85)
      have kn_87 : Hid (c_29 1 5 = g0) := (hF_31 1 5 (fun h => absurd h.2 (ni rfl))).trans (hid kn_86)
      have kn_88 : Hid (c_18 (A + 7) 5 = n0) := (hF_20 (A + 7) 5 (fun h => absurd h.1 (np hA rfl rfl))).trans (hg_n0)
      have kn_89 : Hid (c_24 (A + 7) 5 = n0) := (hF_26 (A + 7) 5 (fun h => absurd h.1 (np hA rfl rfl))).trans (hid kn_88)
      have kn_90 : Hid (c_29 (A + 7) 5 = n0) := (hF_31 (A + 7) 5 (fun h => absurd h.1 (np hA rfl rfl))).trans (hid kn_89)
      have kn_91 : Hid (c_75 41 29 = n0) := (hF_77 41 29 (fun h => absurd h.2 (ni rfl))).trans (hr_n0)
      have h_92 : c_29 1 4 = f0 := (hid kn_42)
      have h_93 : c_29 1 2 = (nx F e1 p0) + 1 := (hz_33)
      have h_94 : c_29 1 5 = g0 := (hid kn_87)
      have h_95 : (up (up c_75 41 4 ((nx F e1 p0) + 1)) 41 7 (o0 + 1)) 41 5 = (-1) := ((up_n (by decide)).trans ((up_n (by decide)).trans (hid kn_79)))
      have h_96 : (up (up c_75 41 4 ((nx F e1 p0) + 1)) 41 7 (o0 + 1)) 41 4 = (nx F e1 p0) + 1 := ((up_n (by decide)).trans (up_e rfl))
      have kn_97 : Hid (c_75 41 6 = c 41 6) := hF_77 41 6 (fun h => absurd h.2 (ni rfl))
      have h_98 : (up (up c_75 41 4 ((nx F e1 p0) + 1)) 41 7 (o0 + 1)) 41 6 = c 41 6 := ((up_n (by decide)).trans ((up_n (by decide)).trans (hid kn_97)))
      have hA_99 : Ce n0 (c_29 (A + 9)) ((up (up c_75 41 4 ((nx F e1 p0) + 1)) 41 7 (o0 + 1)) 50) ((up (up c_75 41 4 ((nx F e1 p0) + 1)) 41 7 (o0 + 1)) 51) := ce_fr hr0 (fun j => (hF_31 (A + 9) j (fun h => absurd h.1 (np hA rfl rfl))).trans ((hF_26 (A + 9) j (fun h => absurd h.1 (np hA rfl rfl))).trans (hF_20 (A + 9) j (fun h => absurd h.1 (np hA rfl rfl))))) (fun j => (up_c (nn rfl)).trans ((up_c (nn rfl)).trans (hF_77 50 j (fun h => absurd h.1 (nn rfl))))) (fun j => (up_c (nn rfl)).trans ((up_c (nn rfl)).trans (hF_77 51 j (fun h => absurd h.1 (nn rfl)))))
      refine v_cv c_176_23 km_8_251 rfl rfl (Nat.le_of_ble_eq_true rfl) ⟨⟨rfl, rfl⟩, Nat.le_of_ble_eq_true rfl, rfl⟩ (Nat.le_of_ble_eq_true rfl) (Nat.le_of_ble_eq_true rfl) (H13 (m := c_29) (e1 := e1) (f0 := f0) (g0 := g0) (p0 := (nx F e1 p0) + 1) (n0 := n0) (o0 := o0 + 1) (by omega) (by omega) hI_82 hI_30 hI_44 (show 0 ≤ a2 + 1 ∧ a2 + 1 ≤ 6 from ⟨by first | exact rgp_l ha2.1 (by decide) | omega, by first | exact q_6818793ee h_39 | omega⟩) (by first | exact q_f9c88a064 hq0 | omega) (by first | exact q_ef26995af hq1 | omega) (by first | exact q_a8f8175b5 hq2 | omega) (by first | exact q_dc6f3f3c3 h_10 hq3 | omega) (by first | exact q_2f04fc27c hq6 | omega) (by first | exact q_7024b37ce hq5 | omega) ((hid kn_83)) (((up_n (by decide)).trans ((up_n (by decide)).trans (hid kn_84)))) ((hid kn_42)) ((hid kn_87)) ((hz_33)) ((hid kn_90)) (((up_n (by decide)).trans ((up_n (by decide)).trans (hid kn_91)))) ((up_e rfl)) (fun j => ((hF_31 2 j (fun h => absurd h.1 (nn rfl))).trans ((hF_26 2 j (fun h => absurd h.1 (nn rfl))).trans (hF_20 2 j (fun h => absurd h.1 (nn rfl))))).trans (hF j)) (fun j => ((up_c (nn rfl)).trans ((up_c (nn rfl)).trans (hF_77 43 j (fun h => absurd h.1 (nn rfl))))).trans (hH j)) hU (rt_i1 ⟨by first | exact q_f9c88a064 hq0 | omega, by first | assumption | omega, by first | assumption | omega, by first | exact q_ef26995af hq1 | omega⟩) (ce_le hA_99 (by omega)) hG_46 (fun c_100 hI_101 hF_102 hR_104 h_105 h_106 hA_107 => (bk_inl ?_)))
      have h_108 := ir_41_29 hI_101
      have h_109 := ir_1_2 hI_44
      have h_110 := ir_41_7 hI_101
      refine q_aload_n c_176_26 rfl (v_bip c_176_27 (by decide) ?_)
      have h_111 := ir_41_5 hI_101
      have h_112 := ir_1_5 hI_44
      have h_113 := ir_41_4 hI_101
      have h_114 := ir_41_6 hI_101
      have h_115 := rt_ok hR_104 (by first | exact q_f6b658f58 h_47 h_48 | omega)
      have hro_hR_104 := rt_ok hR_104 (by first | exact q_f6b658f58 h_47 h_48 | omega)
      have kn_116 : Hid (c_43 1 1 = e1) := (hF_45 1 1 (qn_4df5db44f hA)).trans (hid kn_83)
      have kn_117 : Hid (c_100 41 3 = e1) := (hF_102 41 3 qn_d31ba9b5e).trans ((up_n (by decide)).trans ((up_n (by decide)).trans (hid kn_84)))
      refine v_cv c_176_29 km_8_229 rfl rfl (Nat.le_of_ble_eq_true rfl) ⟨⟨rfl, rfl⟩, Nat.le_of_ble_eq_true rfl, rfl⟩ (Nat.le_of_ble_eq_true rfl) (Nat.le_of_ble_eq_true rfl) (L_11_2 (m := c_43) (e1 := e1) (a9 := c_43 1 2) (f0 := c_43 1 4) (F := F) (H := H) hI_101 hI_44 hI_50 ((hid kn_116)) ((hid kn_117)) (rfl) (rfl) (fun j => ((hF_45 2 j (qn_0eac3bbbd hA)).trans ((hF_31 2 j (fun h => absurd h.1 (nn rfl))).trans ((hF_26 2 j (fun h => absurd h.1 (nn rfl))).trans (hF_20 2 j (fun h => absurd h.1 (nn rfl)))))).trans (hF j)) (fun j => ((hF_102 43 j qn_9b8df3fcd).trans ((up_c (nn rfl)).trans ((up_c (nn rfl)).trans (hF_77 43 j (fun h => absurd h.1 (nn rfl)))))).trans (hH j)) hU hR_104 hG_52 (fun c_118 hI_119 hF_120 hR_122 h_123 h_124 => (bk_inl (q_aload_n c_176_32 rfl (q_dup c_176_33 rfl ?_)))))
      have kn_125 : Hid (c_118 41 7 = c_100 41 7) := hF_120 41 7 qn_fb1117a24
      refine v_gi (z := 7) (v := c_100 41 7) c_176_34 kf_8_142 rfl (Nat.le_of_ble_eq_true rfl) rfl rfl (hid kn_125) (q_iconst c_176_37 (v_isub (v := c_100 41 7 - 1) c_176_38 rfl (v_pi (z := 7) c_176_39 kf_8_142 rfl (Nat.le_of_ble_eq_true rfl) rfl rfl rfl (by decide) (q_goto (t := 154) c_176_42 rfl (q_vret rfl rfl ?_)))))
      have hI_126 := iw_41_7 (v := c_100 41 7 - 1) hI_119 ⟨by first | exact q_cb7e5c914 h_106 ha2 | omega, by first | exact rgm_h h_110.2 (by decide) | omega⟩
      have h_127 := ir_41_5 hI_119
      have h_128 := ir_41_4 hI_119
      have h_129 := ir_41_6 hI_119
      have h_130 := rt_or hR_122
      have h_131 : (up c_118 41 7 (c_100 41 7 - 1)) 41 5 = c_118 41 5 := (up_n (by decide))
      have h_132 : (up c_118 41 7 (c_100 41 7 - 1)) 41 4 = c_118 41 4 := (up_n (by decide))
      have h_133 : (up c_118 41 7 (c_100 41 7 - 1)) 41 6 = c_118 41 6 := (up_n (by decide))
      have kn_134 : Hid (c_118 41 29 = c_100 41 29) := hF_120 41 29 qn_56e241d1f
      have h_135 : (up c_118 41 7 (c_100 41 7 - 1)) 41 29 = c_100 41 29 := ((up_n (by decide)).trans (hid kn_134))
      have h_136 : (up c_118 41 7 (c_100 41 7 - 1)) 41 7 = c_100 41 7 - 1 := (up_e rfl)
      have h_137 : (up c_118 41 7 (c_100 41 7 - 1)) 41 29 = c_100 41 29 := ((up_n (by decide)).trans (hid kn_134))
      have hA_138 : Ce (c_100 41 29) (c_49 (A + 9)) ((up c_118 41 7 (c_100 41 7 - 1)) 50) ((up c_118 41 7 (c_100 41 7 - 1)) 51) := ce_fr (hA_107 (by omega)) (fun j => hF_51 (A + 9) j (qn_e90b43228 hA)) (fun j => (up_c (nn rfl)).trans (hF_120 50 j qn_a830d9710)) (fun j => (up_c (nn rfl)).trans (hF_120 51 j qn_b10baaf0c))
      have hA_139 : Ce (c_100 41 29) (m9 (A + 9)) ((up c_118 41 7 (c_100 41 7 - 1)) 50) ((up c_118 41 7 (c_100 41 7 - 1)) 51) := ce_l hA_138 (fun j h1 h2 => wd_av hW (ck_p9 hA) (ck_p9 hA) (by decide) (a68 hA rfl) ⟨h1, by omega⟩ rfl (ir_p9 hI_50 hA j) (ir_p9 hJ9 hA j))
      exact K (up c_118 41 7 (c_100 41 7 - 1))  hI_126 (fun a j hm => (up_b (Decidable.or_iff_not_imp_left.mpr (fun h1 h2 => hm (Or.inr (Or.inr (Or.inr (Or.inl ⟨Decidable.not_not.mp h1, h2⟩))))))).trans ((hF_120 a j (qv_79b37c5f3 hm)).trans ((hF_102 a j hm).trans ((up_b (Decidable.or_iff_not_imp_left.mpr (fun h1 h2 => hm (Or.inr (Or.inr (Or.inr (Or.inl ⟨Decidable.not_not.mp h1, h2⟩))))))).trans ((up_b (Decidable.or_iff_not_imp_left.mpr (fun h1 h2 => hm (Or.inl ⟨Decidable.not_not.mp h1, h2⟩)))).trans (hF_77 a j (fun h => hm (Or.inl h)))))))) (by unfold Rt; omega) (by omega) (by first | exact q_65aaae687 h_106 | omega) (fun _ => ce_le hA_139 (by omega))
    · skip
      refine v_cv c_14_118 km_0_92 rfl rfl (Nat.le_of_ble_eq_true rfl) ⟨⟨rfl, rfl⟩, Nat.le_of_ble_eq_true rfl, rfl⟩ (Nat.le_of_ble_eq_true rfl) (Nat.le_of_ble_eq_true rfl) (q_aload_n c_11_0 rfl (v_cv c_11_1 km_5_45 rfl rfl (Nat.le_of_ble_eq_true rfl) ⟨⟨rfl, rfl⟩, Nat.le_of_ble_eq_true rfl, rfl⟩ (Nat.le_of_ble_eq_true rfl) (Nat.le_of_ble_eq_true rfl) (q_aload_n c_2_0 rfl (v_gi (z := 4) (v := c_43 1 4) c_2_1 kf_5_38 rfl (Nat.le_of_ble_eq_true rfl) rfl rfl rfl (v_if_ne_t (t := 11) c_2_4 rfl ⟨by first | exact q_106d90f3b h_47 h_48 | omega, ⟨(Int.le_trans (by decide) h_47.1), (Int.le_trans h_47.2 (by decide))⟩, by decide, by decide⟩ (q_iconst c_2_11 (v_zret c_2_12 rfl (by decide) ?_)))))))
      refine bk_inl (v_if_eq_t (t := 25) c_11_4 rfl (by decide) (q_vret rfl rfl (bk_inl (q_goto (t := 171) c_14_121 rfl (q_vret rfl rfl ?_)))))
      intro hE_140
      have hW : Wd P Q P P c_43 = Wd P Q P P m9 := (Prod.mk.inj (Prod.mk.inj hE_140).2).1
      have h_141 := ir_1_4 hJ9
      have h_142 : m9 1 4 = c_43 1 4 := wd_fv (z := 4) 4 rfl hW rfl rfl rfl rfl (by decide) rfl ⟨(Int.le_trans (by decide) h_47.1), (Int.le_trans h_47.2 (by decide))⟩ ⟨(Int.le_trans (by decide) h_141.1), (Int.le_trans h_141.2 (by decide))⟩
      have h_143 := ir_1_2 hI_44
      have h_144 := ir_1_2 hJ9
      have h_145 : m9 1 2 = c_43 1 2 := wd_fv (z := 2) 2 rfl hW rfl rfl rfl rfl (by decide) rfl ⟨(Int.le_trans (by decide) h_143.1), (Int.le_trans h_143.2 (by decide))⟩ ⟨(Int.le_trans (by decide) h_144.1), (Int.le_trans h_144.2 (by decide))⟩
      have h_146 := ir_1_5 hI_44
      have h_147 := ir_1_5 hJ9
      have h_148 : m9 1 5 = c_43 1 5 := wd_fv (z := 5) 5 rfl hW rfl rfl rfl rfl (by decide) rfl ⟨(Int.le_trans (by decide) h_146.1), (Int.le_trans h_146.2 (by decide))⟩ ⟨(Int.le_trans (by decide) h_147.1), (Int.le_trans h_147.2 (by decide))⟩
      have h_149 := ir_p7_5 hI_44 hA
      have h_150 := ir_p7_5 hJ9 hA
      have h_151 : m9 (A + 7) 5 = c_43 (A + 7) 5 := wd_fv (z := 5) 5 rfl hW (ck_p7 hA) (ck_p7 hA) rfl rfl (a68 hA rfl) rfl ⟨(Int.le_trans (by decide) h_149.1), (Int.le_trans h_149.2 (by decide))⟩ ⟨(Int.le_trans (by decide) h_150.1), (Int.le_trans h_150.2 (by decide))⟩
      refine q_aload_n c_176_0 rfl (v_cv c_176_1 km_8_131 rfl rfl (Nat.le_of_ble_eq_true rfl) ⟨⟨rfl, rfl⟩, Nat.le_of_ble_eq_true rfl, rfl⟩ (Nat.le_of_ble_eq_true rfl) (Nat.le_of_ble_eq_true rfl) (q_aload_n c_152_0 rfl ?_))
      have h_152 := ir_41_5 hI
      have h_153 := ir_41_4 hI
      have h_154 := ir_41_6 hI
      have h_155 := rt_ok hRt (by first | exact q_2cabce820 h_3 hg_f0 hq0 | omega)
      have hro_hRt := rt_ok hRt (by first | exact q_f9c88a064 hq0 | omega)
      refine v_gi (z := 5) (v := (-1)) c_152_1 kf_8_102 rfl (Nat.le_of_ble_eq_true rfl) rfl rfl hro_hRt.2.1 (q_iconst c_152_4 (v_ic_ne_f (t := 12) c_152_5 rfl (by decide) (q_iconst c_152_8 (q_goto (t := 13) c_152_9 rfl (v_zret c_152_13 rfl (by decide) (bk_inl (v_if_ne_t (t := 8) c_176_4 rfl (by decide) ?_)))))))
      refine q_aload_n c_176_8 rfl ?_
      have h_156 : -2147483648 ≤ (H (nx F e1 p0)) ∧ (H (nx F e1 p0)) ≤ 2147483647 := by rw [← hH (nx F e1 p0)]; exact ir_43 hI (nx F e1 p0)
      have h_157 := hU (nx F e1 p0) ((rg_be h_10 ((rg_eq hg_p0 h_5).1) ((rg_eq hg_e1 h_1).2)).1) (by first | exact q_a1999738b hq5 hq6 | omega)
      have h_158 := hb_or (b := H) (e := e1) (r := (nx F e1 p0))
      have h_159 := hb_bd (b := H) (e := e1) (r := (nx F e1 p0)) (lo := -2147483648) (hi := 2147483647) h_156 (by decide)
      refine v_cv c_176_9 km_8_114 rfl rfl (Nat.le_of_ble_eq_true rfl) ⟨⟨rfl, rfl⟩, Nat.le_of_ble_eq_true rfl, rfl⟩ (Nat.le_of_ble_eq_true rfl) (Nat.le_of_ble_eq_true rfl) (f_154 (e1 := e1) (a9 := p0) (B := H) (r8 := (nx F e1 p0)) (r := (hb H e1 (nx F e1 p0))) hI ((hr_e1)) (((hro_hRt.2.2.1).trans ((hg_p0)))) (fun j => hH j) ((nx_tr hU ((rg_eq hg_p0 h_5).1) ((rg_eq hg_e1 h_1).2)).trans (rfl)) rfl (fun c_160 hI_161 hF_162 h_163 => (bk_inl (v_bip c_176_12 (by decide) (v_ic_ne_f (t := 45) c_176_14 rfl (by first | (clear ha2 hq0 hq1 hq2 hq3 hq4 hq5 hq6 h_1 hg_e1 h_2 hr_e1 h_3 hg_f0 h_4 hg_g0 h_5 hg_p0 h_6 hg_n0 h_7 hr_n0 h_8 hr_o0 h_9 h_10 h_11 h_39 h_47 h_141 h_142 h_143 h_144 h_145 h_146 h_147 h_148 h_149 h_150 h_151 h_152 h_153 h_154 h_155 h_156 h_159 h_12 h_21 h_48; omega) | omega) (q_aload_n c_176_17 rfl (q_iconst c_176_18 (v_cv c_176_19 km_8_248 rfl rfl (Nat.le_of_ble_eq_true rfl) ⟨⟨rfl, rfl⟩, Nat.le_of_ble_eq_true rfl, rfl⟩ (Nat.le_of_ble_eq_true rfl) (Nat.le_of_ble_eq_true rfl) (q_aload_n c_171_0 rfl ?_)))))))))
      refine v_cv c_171_1 km_8_131 rfl rfl (Nat.le_of_ble_eq_true rfl) ⟨⟨rfl, rfl⟩, Nat.le_of_ble_eq_true rfl, rfl⟩ (Nat.le_of_ble_eq_true rfl) (Nat.le_of_ble_eq_true rfl) (q_aload_n c_152_0 rfl ?_)
      have kn_164 : Hid (c_160 41 5 = (-1)) := (hF_162 41 5 (fun h => absurd h.2 (ni rfl))).trans hro_hRt.2.1
      refine v_gi (z := 5) (v := (-1)) c_152_1 kf_8_102 rfl (Nat.le_of_ble_eq_true rfl) rfl rfl (hid kn_164) (q_iconst c_152_4 (v_ic_ne_f (t := 12) c_152_5 rfl (by decide) (q_iconst c_152_8 (q_goto (t := 13) c_152_9 rfl (v_zret c_152_13 rfl (by decide) (bk_inl (v_if_eq_f (t := 25) c_171_4 rfl (by decide) ?_)))))))
      refine q_aload_n c_171_7 rfl ?_
      have kn_165 : Hid (c_160 41 7 = o0) := (hF_162 41 7 (fun h => absurd h.2 (ni rfl))).trans (hr_o0)
      refine v_gi (z := 7) (v := o0) c_171_8 kf_8_142 rfl (Nat.le_of_ble_eq_true rfl) rfl rfl (hid kn_165) (v_bip c_171_11 (by decide) (v_ic_ne_t (t := 25) c_171_13 rfl ⟨by first | exact q_a45d3d514 h_39 hq2 | omega, ⟨(Int.le_trans (by decide) (rg_eq hr_o0 h_8).1), (Int.le_trans (rg_eq hr_o0 h_8).2 (by decide))⟩, by decide, by decide⟩ (q_aload_n c_171_25 rfl (v_cv c_171_26 km_8_131 rfl rfl (Nat.le_of_ble_eq_true rfl) ⟨⟨rfl, rfl⟩, Nat.le_of_ble_eq_true rfl, rfl⟩ (Nat.le_of_ble_eq_true rfl) (Nat.le_of_ble_eq_true rfl) (q_aload_n c_152_0 rfl (v_gi (z := 5) (v := (-1)) c_152_1 kf_8_102 rfl (Nat.le_of_ble_eq_true rfl) rfl rfl (hid kn_164) (q_iconst c_152_4 ?_)))))))
      refine v_ic_ne_f (t := 12) c_152_5 rfl (by decide) (q_iconst c_152_8 (q_goto (t := 13) c_152_9 rfl (v_zret c_152_13 rfl (by decide) (bk_inl (v_if_eq_f (t := 42) c_171_29 rfl (by decide) (q_aload_n c_171_32 rfl (q_dup c_171_33 rfl ?_)))))))
      refine v_gi (z := 4) (v := (nx F e1 p0)) c_171_34 kf_8_108 rfl (Nat.le_of_ble_eq_true rfl) rfl rfl (h_163) (q_iload_n c_171_37 rfl (v_iadd (v := (nx F e1 p0) + 1) c_171_38 rfl (v_pi (z := 4) c_171_39 kf_8_108 rfl (Nat.le_of_ble_eq_true rfl) rfl rfl rfl (by decide) (q_aload_n c_171_42 rfl (q_dup c_171_43 rfl (v_gi (z := 7) (v := o0) c_171_44 kf_8_142 rfl (Nat.le_of_ble_eq_true rfl) rfl rfl ((up_n (by decide)).trans (hid kn_165)) (q_iconst c_171_47 ?_)))))))
      refine v_iadd (v := o0 + 1) c_171_48 rfl (v_pi (z := 7) c_171_49 kf_8_142 rfl (Nat.le_of_ble_eq_true rfl) rfl rfl rfl (by decide) (q_vret rfl rfl (bk_inl (q_aload_n c_176_22 rfl ?_))))
      have hI_166 := iw_41_4 (v := (nx F e1 p0) + 1) hI_161 ⟨by first | exact rgp_l (rg_be h_10 ((rg_eq hg_p0 h_5).1) ((rg_eq hg_e1 h_1).2)).1 (by decide) | omega, by first | exact rgp_h (rg_be h_10 ((rg_eq hg_p0 h_5).1) ((rg_eq hg_e1 h_1).2)).2 (by decide) | omega⟩
      have hI_167 := iw_41_7 (v := o0 + 1) hI_166 ⟨by first | exact rgp_l (rg_eq hr_o0 h_8).1 (by decide) | omega, by first | exact q_b1cfbe133 h_39 hq2 | omega⟩
      have kn_168 : Hid (c_29 1 1 = e1) := (hF_31 1 1 (fun h => absurd h.2 (ni rfl))).trans (hid kn_28)
      have kn_169 : Hid (c_160 41 3 = e1) := (hF_162 41 3 (fun h => absurd h.2 (ni rfl))).trans (hr_e1)
      have kn_170 : Hid (c_18 1 5 = g0) := (hF_20 1 5 (fun h => absurd h.2 (ni rfl))).trans (hg_g0)
      have kn_171 : Hid (c_24 1 5 = g0) := (hF_26 1 5 (fun h => absurd h.2 (ni rfl))).trans (hid kn_170)
      have kn_172 : Hid (c_29 1 5 = g0) := (hF_31 1 5 (fun h => absurd h.2 (ni rfl))).trans (hid kn_171)
      have kn_173 : Hid (c_18 (A + 7) 5 = n0) := (hF_20 (A + 7) 5 (fun h => absurd h.1 (np hA rfl rfl))).trans (hg_n0)
      have kn_174 : Hid (c_24 (A + 7) 5 = n0) := (hF_26 (A + 7) 5 (fun h => absurd h.1 (np hA rfl rfl))).trans (hid kn_173)
      have kn_175 : Hid (c_29 (A + 7) 5 = n0) := (hF_31 (A + 7) 5 (fun h => absurd h.1 (np hA rfl rfl))).trans (hid kn_174)
      have kn_176 : Hid (c_160 41 29 = n0) := (hF_162 41 29 (fun h => absurd h.2 (ni rfl))).trans (hr_n0)
      have h_177 : c_29 1 4 = f0 := (hid kn_42)
      have h_178 : c_29 1 2 = (nx F e1 p0) + 1 := (hz_33)
      have h_179 : c_29 1 5 = g0 := (hid kn_172)
      have h_180 : (up (up c_160 41 4 ((nx F e1 p0) + 1)) 41 7 (o0 + 1)) 41 5 = (-1) := ((up_n (by decide)).trans ((up_n (by decide)).trans (hid kn_164)))
      have h_181 : (up (up c_160 41 4 ((nx F e1 p0) + 1)) 41 7 (o0 + 1)) 41 4 = (nx F e1 p0) + 1 := ((up_n (by decide)).trans (up_e rfl))
      have kn_182 : Hid (c_160 41 6 = c 41 6) := hF_162 41 6 (fun h => absurd h.2 (ni rfl))
      have h_183 : (up (up c_160 41 4 ((nx F e1 p0) + 1)) 41 7 (o0 + 1)) 41 6 = c 41 6 := ((up_n (by decide)).trans ((up_n (by decide)).trans (hid kn_182)))
      have hA_184 : Ce n0 (c_29 (A + 9)) ((up (up c_160 41 4 ((nx F e1 p0) + 1)) 41 7 (o0 + 1)) 50) ((up (up c_160 41 4 ((nx F e1 p0) + 1)) 41 7 (o0 + 1)) 51) := ce_fr hr0 (fun j => (hF_31 (A + 9) j (fun h => absurd h.1 (np hA rfl rfl))).trans ((hF_26 (A + 9) j (fun h => absurd h.1 (np hA rfl rfl))).trans (hF_20 (A + 9) j (fun h => absurd h.1 (np hA rfl rfl))))) (fun j => (up_c (nn rfl)).trans ((up_c (nn rfl)).trans (hF_162 50 j (fun h => absurd h.1 (nn rfl))))) (fun j => (up_c (nn rfl)).trans ((up_c (nn rfl)).trans (hF_162 51 j (fun h => absurd h.1 (nn rfl)))))
      refine v_cv c_176_23 km_8_251 rfl rfl (Nat.le_of_ble_eq_true rfl) ⟨⟨rfl, rfl⟩, Nat.le_of_ble_eq_true rfl, rfl⟩ (Nat.le_of_ble_eq_true rfl) (Nat.le_of_ble_eq_true rfl) (H13 (m := c_29) (e1 := e1) (f0 := f0) (g0 := g0) (p0 := (nx F e1 p0) + 1) (n0 := n0) (o0 := o0 + 1) (by omega) (by omega) hI_167 hI_30 hI_44 (show 0 ≤ a2 + 1 ∧ a2 + 1 ≤ 6 from ⟨by first | exact rgp_l ha2.1 (by decide) | omega, by first | exact q_6818793ee h_39 | omega⟩) (by first | exact q_f9c88a064 hq0 | omega) (by first | exact q_ef26995af hq1 | omega) (by first | exact q_a8f8175b5 hq2 | omega) (by first | exact q_dc6f3f3c3 h_10 hq3 | omega) (by first | exact q_2f04fc27c hq6 | omega) (by first | exact q_7024b37ce hq5 | omega) ((hid kn_168)) (((up_n (by decide)).trans ((up_n (by decide)).trans (hid kn_169)))) ((hid kn_42)) ((hid kn_172)) ((hz_33)) ((hid kn_175)) (((up_n (by decide)).trans ((up_n (by decide)).trans (hid kn_176)))) ((up_e rfl)) (fun j => ((hF_31 2 j (fun h => absurd h.1 (nn rfl))).trans ((hF_26 2 j (fun h => absurd h.1 (nn rfl))).trans (hF_20 2 j (fun h => absurd h.1 (nn rfl))))).trans (hF j)) (fun j => ((up_c (nn rfl)).trans ((up_c (nn rfl)).trans (hF_162 43 j (fun h => absurd h.1 (nn rfl))))).trans (hH j)) hU (rt_i1 ⟨by first | exact q_f9c88a064 hq0 | omega, by first | assumption | omega, by first | assumption | omega, by first | exact q_ef26995af hq1 | omega⟩) (ce_le hA_184 (by omega)) hG_46 (fun c_185 hI_186 hF_187 hR_189 h_190 h_191 hA_192 => (bk_inl ?_)))
      have h_193 := ir_41_29 hI_186
      have h_194 := ir_41_7 hI_186
      refine q_aload_n c_176_26 rfl (v_bip c_176_27 (by decide) ?_)
      have h_195 := ir_41_5 hI_186
      have h_196 := ir_41_4 hI_186
      have h_197 := ir_41_6 hI_186
      have h_198 := rt_bad hR_189 (by first | exact q_106d90f3b h_47 h_48 | omega)
      have hrb_hR_189 := rt_bad hR_189 (by first | exact q_f7b7d720f h_198 | omega)
      refine v_cv c_176_29 km_8_229 rfl rfl (Nat.le_of_ble_eq_true rfl) ⟨⟨rfl, rfl⟩, Nat.le_of_ble_eq_true rfl, rfl⟩ (Nat.le_of_ble_eq_true rfl) (Nat.le_of_ble_eq_true rfl) (q_aload_n c_161_0 rfl (v_cv c_161_1 km_8_131 rfl rfl (Nat.le_of_ble_eq_true rfl) ⟨⟨rfl, rfl⟩, Nat.le_of_ble_eq_true rfl, rfl⟩ (Nat.le_of_ble_eq_true rfl) (Nat.le_of_ble_eq_true rfl) (q_aload_n c_152_0 rfl (v_gi (z := 5) (v := c_43 1 5) c_152_1 kf_8_102 rfl (Nat.le_of_ble_eq_true rfl) rfl rfl hrb_hR_189.2.1 (q_iconst c_152_4 (v_ic_ne_t (t := 12) c_152_5 rfl ⟨by first | exact q_0f78863d3 h_198 | omega, ⟨(Int.le_trans (by decide) h_146.1), (Int.le_trans h_146.2 (by decide))⟩, by decide, by decide⟩ (q_iconst c_152_12 ?_)))))))
      refine v_zret c_152_13 rfl (by decide) (bk_inl (v_if_eq_t (t := 24) c_161_4 rfl (by decide) (q_aload_n c_161_24 rfl (v_cv c_161_25 km_8_131 rfl rfl (Nat.le_of_ble_eq_true rfl) ⟨⟨rfl, rfl⟩, Nat.le_of_ble_eq_true rfl, rfl⟩ (Nat.le_of_ble_eq_true rfl) (Nat.le_of_ble_eq_true rfl) (q_aload_n c_152_0 rfl (v_gi (z := 5) (v := c_43 1 5) c_152_1 kf_8_102 rfl (Nat.le_of_ble_eq_true rfl) rfl rfl hrb_hR_189.2.1 (q_iconst c_152_4 ?_)))))))
      refine v_ic_ne_t (t := 12) c_152_5 rfl ⟨by first | exact q_0f78863d3 h_198 | omega, ⟨(Int.le_trans (by decide) h_146.1), (Int.le_trans h_146.2 (by decide))⟩, by decide, by decide⟩ (q_iconst c_152_12 (v_zret c_152_13 rfl (by decide) (bk_inl (v_if_eq_t (t := 41) c_161_28 rfl (by decide) (q_vret rfl rfl (bk_inl (q_aload_n c_176_32 rfl ?_)))))))
      refine q_dup c_176_33 rfl (v_gi (z := 7) (v := c_185 41 7) c_176_34 kf_8_142 rfl (Nat.le_of_ble_eq_true rfl) rfl rfl rfl (q_iconst c_176_37 (v_isub (v := c_185 41 7 - 1) c_176_38 rfl (v_pi (z := 7) c_176_39 kf_8_142 rfl (Nat.le_of_ble_eq_true rfl) rfl rfl rfl (by decide) (q_goto (t := 154) c_176_42 rfl (q_vret rfl rfl ?_))))))
      have hI_199 := iw_41_7 (v := c_185 41 7 - 1) hI_186 ⟨by first | exact q_cb7e5c914 h_191 ha2 | omega, by first | exact rgm_h h_194.2 (by decide) | omega⟩
      have h_200 : (up c_185 41 7 (c_185 41 7 - 1)) 41 5 = c_43 1 5 := (((up_n (by decide))).trans (hrb_hR_189.2.1))
      have h_201 : (up c_185 41 7 (c_185 41 7 - 1)) 41 4 = c_185 41 4 := (up_n (by decide))
      have h_202 : (up c_185 41 7 (c_185 41 7 - 1)) 41 6 = c_43 1 4 := (((up_n (by decide))).trans (hrb_hR_189.2.2.2))
      have h_203 : (up c_185 41 7 (c_185 41 7 - 1)) 41 29 = c_185 41 29 := (up_n (by decide))
      have h_204 : (up c_185 41 7 (c_185 41 7 - 1)) 41 7 = c_185 41 7 - 1 := (up_e rfl)
      have h_205 : (up c_185 41 7 (c_185 41 7 - 1)) 41 29 = c_185 41 29 := (up_n (by decide))
      exact K (up c_185 41 7 (c_185 41 7 - 1))  hI_199 (fun a j hm => (up_b (Decidable.or_iff_not_imp_left.mpr (fun h1 h2 => hm (Or.inr (Or.inr (Or.inr (Or.inl ⟨Decidable.not_not.mp h1, h2⟩))))))).trans ((hF_187 a j hm).trans ((up_b (Decidable.or_iff_not_imp_left.mpr (fun h1 h2 => hm (Or.inr (Or.inr (Or.inr (Or.inl ⟨Decidable.not_not.mp h1, h2⟩))))))).trans ((up_b (Decidable.or_iff_not_imp_left.mpr (fun h1 h2 => hm (Or.inl ⟨Decidable.not_not.mp h1, h2⟩)))).trans (hF_162 a j (fun h => hm (Or.inl h))))))) (rt_i2 ⟨⟨by first | exact q_c4ab36c8d h_142 h_198 | omega, by first | exact q_c99d6ea93 h_141 | omega⟩, by first | exact q_88dc5fb99 h_148 | omega, by first | exact q_cb71117a2 h_148 h_198 | omega, by first | exact q_88dc5fb99 h_142 | omega⟩) (Or.inr (Or.inl (by first | exact q_374cd1df9 h_142 h_198 | omega))) (by first | exact q_65aaae687 h_191 | omega) (fun hz => absurd hz (by first | exact q_293b4c771 h_142 h_198 | omega))
  · refine v_ic_lt_f (t := 94) c_14_85 rfl ⟨by decide, (Int.not_lt.mp h_39), (Int.le_trans ha2.2 (by decide))⟩ (q_aload_n c_14_88 rfl (q_iconst c_14_89 (q_iload_n c_14_90 rfl (v_cv c_14_91 km_0_86 rfl rfl (Nat.le_of_ble_eq_true rfl) ⟨⟨rfl, rfl⟩, Nat.le_of_ble_eq_true rfl, rfl⟩ (Nat.le_of_ble_eq_true rfl) (Nat.le_of_ble_eq_true rfl) (q_aload_n c_7_0 rfl ?_)))))
    have kn_206 : Hid (c_18 1 4 = f0) := (hF_20 1 4 (fun h => absurd h.2 (ni rfl))).trans (hg_f0)
    have kn_207 : Hid (c_24 1 4 = f0) := (hF_26 1 4 (fun h => absurd h.2 (ni rfl))).trans (hid kn_206)
    have kn_208 : Hid (c_29 1 4 = f0) := (hF_31 1 4 (fun h => absurd h.2 (ni rfl))).trans (hid kn_207)
    refine v_gi (z := 4) (v := f0) c_7_1 kf_5_38 rfl (Nat.le_of_ble_eq_true rfl) rfl rfl (hid kn_208) (v_if_ne_f (t := 17) c_7_4 rfl (by first | exact q_f9c88a064 hq0 | omega) (q_aload_n c_7_7 rfl (q_iload_n c_7_8 rfl (v_pi (z := 4) c_7_9 kf_5_38 rfl (Nat.le_of_ble_eq_true rfl) rfl rfl rfl (by decide) (q_aload_n c_7_12 rfl (q_iload_n c_7_13 rfl (v_pi (z := 5) c_7_14 kf_5_15 rfl (Nat.le_of_ble_eq_true rfl) rfl rfl rfl (by decide) ?_)))))))
    refine q_vret rfl rfl (bk_inl (q_aload_n c_14_94 rfl (v_cv c_14_95 km_0_40 rfl rfl (Nat.le_of_ble_eq_true rfl) ⟨⟨rfl, rfl⟩, Nat.le_of_ble_eq_true rfl, rfl⟩ (Nat.le_of_ble_eq_true rfl) (Nat.le_of_ble_eq_true rfl) (q_aload_n c_2_0 rfl (v_gi (z := 4) (v := 3) c_2_1 kf_5_38 rfl (Nat.le_of_ble_eq_true rfl) rfl rfl ((up_n (by decide)).trans (up_e rfl)) (v_if_ne_t (t := 11) c_2_4 rfl (by decide) (q_iconst c_2_11 ?_)))))))
    refine v_zret c_2_12 rfl (by decide) (bk_inl (v_if_ne_f (t := 102) c_14_98 rfl (by decide) (q_vret rfl rfl ?_)))
    have hI_209 := iw_1_4 (v := 3) hI_30 ⟨by decide, by decide⟩
    have hI_210 := iw_1_5 (v := (nx F e1 p0)) hI_209 ⟨(Int.le_trans (by decide) (rg_be h_10 ((rg_eq hg_p0 h_5).1) ((rg_eq hg_e1 h_1).2)).1), (rg_be h_10 ((rg_eq hg_p0 h_5).1) ((rg_eq hg_e1 h_1).2)).2⟩
    intro hE_211
    have hW : Wd P Q P P (up (up c_29 1 4 3) 1 5 (nx F e1 p0)) = Wd P Q P P m9 := (Prod.mk.inj (Prod.mk.inj hE_211).2).1
    have h_212 := ir_1_4 hJ9
    have h_213 : m9 1 4 = 3 := wd_fv (z := 4) 4 rfl hW rfl rfl rfl rfl (by decide) ((up_n (by decide)).trans (up_e rfl)) ⟨by decide, by decide⟩ ⟨(Int.le_trans (by decide) h_212.1), (Int.le_trans h_212.2 (by decide))⟩
    have h_214 := ir_1_2 hJ9
    have h_215 : m9 1 2 = (nx F e1 p0) + 1 := wd_fv (z := 2) 2 rfl hW rfl rfl rfl rfl (by decide) ((up_n (by decide)).trans ((up_n (by decide)).trans (hz_33))) ⟨by first | exact rgp_l (rg_be h_10 ((rg_eq hg_p0 h_5).1) ((rg_eq hg_e1 h_1).2)).1 (by decide) | omega, by first | exact rgp_h (rg_be h_10 ((rg_eq hg_p0 h_5).1) ((rg_eq hg_e1 h_1).2)).2 (by decide) | omega⟩ ⟨(Int.le_trans (by decide) h_214.1), (Int.le_trans h_214.2 (by decide))⟩
    have h_216 := ir_1_5 hJ9
    have h_217 : m9 1 5 = (nx F e1 p0) := wd_fv (z := 5) 5 rfl hW rfl rfl rfl rfl (by decide) (up_e rfl) ⟨(Int.le_trans (by decide) (rg_be h_10 ((rg_eq hg_p0 h_5).1) ((rg_eq hg_e1 h_1).2)).1), (Int.le_trans (rg_be h_10 ((rg_eq hg_p0 h_5).1) ((rg_eq hg_e1 h_1).2)).2 (by decide))⟩ ⟨(Int.le_trans (by decide) h_216.1), (Int.le_trans h_216.2 (by decide))⟩
    have kn_218 : Hid (c_18 (A + 7) 5 = n0) := (hF_20 (A + 7) 5 (fun h => absurd h.1 (np hA rfl rfl))).trans (hg_n0)
    have kn_219 : Hid (c_24 (A + 7) 5 = n0) := (hF_26 (A + 7) 5 (fun h => absurd h.1 (np hA rfl rfl))).trans (hid kn_218)
    have kn_220 : Hid (c_29 (A + 7) 5 = n0) := (hF_31 (A + 7) 5 (fun h => absurd h.1 (np hA rfl rfl))).trans (hid kn_219)
    have h_221 := ir_p7_5 hJ9 hA
    have h_222 : m9 (A + 7) 5 = n0 := wd_fv (z := 5) 5 rfl hW (ck_p7 hA) (ck_p7 hA) rfl rfl (a68 hA rfl) ((up_c (np hA rfl rfl)).trans ((up_c (np hA rfl rfl)).trans (hid kn_220))) ⟨(Int.le_trans (by decide) (rg_eq hg_n0 h_6).1), (Int.le_trans (rg_eq hg_n0 h_6).2 (by decide))⟩ ⟨(Int.le_trans (by decide) h_221.1), (Int.le_trans h_221.2 (by decide))⟩
    refine q_aload_n c_176_0 rfl (v_cv c_176_1 km_8_131 rfl rfl (Nat.le_of_ble_eq_true rfl) ⟨⟨rfl, rfl⟩, Nat.le_of_ble_eq_true rfl, rfl⟩ (Nat.le_of_ble_eq_true rfl) (Nat.le_of_ble_eq_true rfl) (q_aload_n c_152_0 rfl ?_))
    have h_223 := ir_41_5 hI
    have h_224 := ir_41_4 hI
    have h_225 := ir_41_6 hI
    have h_226 := rt_ok hRt (by first | exact q_2cabce820 h_3 hg_f0 hq0 | omega)
    have hro_hRt := rt_ok hRt (by first | exact q_f9c88a064 hq0 | omega)
    refine v_gi (z := 5) (v := (-1)) c_152_1 kf_8_102 rfl (Nat.le_of_ble_eq_true rfl) rfl rfl hro_hRt.2.1 (q_iconst c_152_4 (v_ic_ne_f (t := 12) c_152_5 rfl (by decide) (q_iconst c_152_8 (q_goto (t := 13) c_152_9 rfl (v_zret c_152_13 rfl (by decide) (bk_inl (v_if_ne_t (t := 8) c_176_4 rfl (by decide) ?_)))))))
    refine q_aload_n c_176_8 rfl ?_
    have h_227 : -2147483648 ≤ (H (nx F e1 p0)) ∧ (H (nx F e1 p0)) ≤ 2147483647 := by rw [← hH (nx F e1 p0)]; exact ir_43 hI (nx F e1 p0)
    have h_228 := hU (nx F e1 p0) ((rg_be h_10 ((rg_eq hg_p0 h_5).1) ((rg_eq hg_e1 h_1).2)).1) (by first | exact q_a1999738b hq5 hq6 | omega)
    have h_229 := hb_or (b := H) (e := e1) (r := (nx F e1 p0))
    have h_230 := hb_bd (b := H) (e := e1) (r := (nx F e1 p0)) (lo := -2147483648) (hi := 2147483647) h_227 (by decide)
    refine v_cv c_176_9 km_8_114 rfl rfl (Nat.le_of_ble_eq_true rfl) ⟨⟨rfl, rfl⟩, Nat.le_of_ble_eq_true rfl, rfl⟩ (Nat.le_of_ble_eq_true rfl) (Nat.le_of_ble_eq_true rfl) (f_154 (e1 := e1) (a9 := p0) (B := H) (r8 := (nx F e1 p0)) (r := (hb H e1 (nx F e1 p0))) hI ((hr_e1)) (((hro_hRt.2.2.1).trans ((hg_p0)))) (fun j => hH j) ((nx_tr hU ((rg_eq hg_p0 h_5).1) ((rg_eq hg_e1 h_1).2)).trans (rfl)) rfl (fun c_231 hI_232 hF_233 h_234 => (bk_inl (v_bip c_176_12 (by decide) (v_ic_ne_f (t := 45) c_176_14 rfl (by first | (clear ha2 hq0 hq1 hq2 hq3 hq4 hq5 hq6 h_1 hg_e1 h_2 hr_e1 h_3 hg_f0 h_4 hg_g0 h_5 hg_p0 h_6 hg_n0 h_7 hr_n0 h_8 hr_o0 h_9 h_10 h_11 h_39 h_212 h_213 h_214 h_215 h_216 h_217 h_221 h_222 h_223 h_224 h_225 h_226 h_227 h_230 h_12 h_21; omega) | omega) (q_aload_n c_176_17 rfl (q_iconst c_176_18 (v_cv c_176_19 km_8_248 rfl rfl (Nat.le_of_ble_eq_true rfl) ⟨⟨rfl, rfl⟩, Nat.le_of_ble_eq_true rfl, rfl⟩ (Nat.le_of_ble_eq_true rfl) (Nat.le_of_ble_eq_true rfl) (q_aload_n c_171_0 rfl ?_)))))))))
    refine v_cv c_171_1 km_8_131 rfl rfl (Nat.le_of_ble_eq_true rfl) ⟨⟨rfl, rfl⟩, Nat.le_of_ble_eq_true rfl, rfl⟩ (Nat.le_of_ble_eq_true rfl) (Nat.le_of_ble_eq_true rfl) (q_aload_n c_152_0 rfl ?_)
    have kn_235 : Hid (c_231 41 5 = (-1)) := (hF_233 41 5 (fun h => absurd h.2 (ni rfl))).trans hro_hRt.2.1
    refine v_gi (z := 5) (v := (-1)) c_152_1 kf_8_102 rfl (Nat.le_of_ble_eq_true rfl) rfl rfl (hid kn_235) (q_iconst c_152_4 (v_ic_ne_f (t := 12) c_152_5 rfl (by decide) (q_iconst c_152_8 (q_goto (t := 13) c_152_9 rfl (v_zret c_152_13 rfl (by decide) (bk_inl (v_if_eq_f (t := 25) c_171_4 rfl (by decide) ?_)))))))
    refine q_aload_n c_171_7 rfl ?_
    have kn_236 : Hid (c_231 41 7 = o0) := (hF_233 41 7 (fun h => absurd h.2 (ni rfl))).trans (hr_o0)
    refine v_gi (z := 7) (v := o0) c_171_8 kf_8_142 rfl (Nat.le_of_ble_eq_true rfl) rfl rfl (hid kn_236) (v_bip c_171_11 (by decide) (v_ic_ne_f (t := 25) c_171_13 rfl (by first | exact q_5640541ca h_39 ha2 hq2 | omega) (q_aload_n c_171_16 rfl (q_iconst c_171_17 (q_aload_n c_171_18 rfl (v_gi (z := 4) (v := (nx F e1 p0)) c_171_19 kf_8_108 rfl (Nat.le_of_ble_eq_true rfl) rfl rfl (h_234) (v_cv c_171_22 km_8_138 rfl rfl (Nat.le_of_ble_eq_true rfl) ⟨⟨rfl, rfl⟩, Nat.le_of_ble_eq_true rfl, rfl⟩ (Nat.le_of_ble_eq_true rfl) (Nat.le_of_ble_eq_true rfl) ?_)))))))
    refine q_aload_n c_153_0 rfl (v_gi (z := 5) (v := (-1)) c_153_1 kf_8_102 rfl (Nat.le_of_ble_eq_true rfl) rfl rfl (hid kn_235) (q_iconst c_153_4 (v_ic_eq_t (t := 9) c_153_5 rfl (by decide) (q_aload_n c_153_9 rfl (q_iload_n c_153_10 rfl (v_pi (z := 5) c_153_11 kf_8_102 rfl (Nat.le_of_ble_eq_true rfl) rfl rfl rfl (by decide) (q_aload_n c_153_14 rfl ?_)))))))
    refine q_iload_n c_153_15 rfl (v_pi (z := 6) c_153_16 kf_8_105 rfl (Nat.le_of_ble_eq_true rfl) rfl rfl rfl (by decide) (q_vret rfl rfl (bk_inl (q_aload_n c_171_25 rfl (v_cv c_171_26 km_8_131 rfl rfl (Nat.le_of_ble_eq_true rfl) ⟨⟨rfl, rfl⟩, Nat.le_of_ble_eq_true rfl, rfl⟩ (Nat.le_of_ble_eq_true rfl) (Nat.le_of_ble_eq_true rfl) (q_aload_n c_152_0 rfl (v_gi (z := 5) (v := (nx F e1 p0)) c_152_1 kf_8_102 rfl (Nat.le_of_ble_eq_true rfl) rfl rfl ((up_n (by decide)).trans (up_e rfl)) ?_)))))))
    refine q_iconst c_152_4 (v_ic_ne_t (t := 12) c_152_5 rfl ⟨(ne_rg (rg_be h_10 ((rg_eq hg_p0 h_5).1) ((rg_eq hg_e1 h_1).2)) (by decide)), ⟨(Int.le_trans (by decide) (rg_be h_10 ((rg_eq hg_p0 h_5).1) ((rg_eq hg_e1 h_1).2)).1), (Int.le_trans (rg_be h_10 ((rg_eq hg_p0 h_5).1) ((rg_eq hg_e1 h_1).2)).2 (by decide))⟩, by decide, by decide⟩ (q_iconst c_152_12 (v_zret c_152_13 rfl (by decide) (bk_inl (v_if_eq_t (t := 42) c_171_29 rfl (by decide) (q_aload_n c_171_42 rfl (q_dup c_171_43 rfl ?_)))))))
    refine v_gi (z := 7) (v := o0) c_171_44 kf_8_142 rfl (Nat.le_of_ble_eq_true rfl) rfl rfl ((up_n (by decide)).trans ((up_n (by decide)).trans (hid kn_236))) (q_iconst c_171_47 (v_iadd (v := o0 + 1) c_171_48 rfl (v_pi (z := 7) c_171_49 kf_8_142 rfl (Nat.le_of_ble_eq_true rfl) rfl rfl rfl (by decide) (q_vret rfl rfl (bk_inl (q_aload_n c_176_22 rfl ?_))))))
    have hI_237 := iw_41_5 (v := (nx F e1 p0)) hI_232 ⟨(Int.le_trans (by decide) (rg_be h_10 ((rg_eq hg_p0 h_5).1) ((rg_eq hg_e1 h_1).2)).1), (Int.le_trans (rg_be h_10 ((rg_eq hg_p0 h_5).1) ((rg_eq hg_e1 h_1).2)).2 (by decide))⟩
    have hI_238 := iw_41_6 (v := 3) hI_237 ⟨by decide, by decide⟩
    have hI_239 := iw_41_7 (v := o0 + 1) hI_238 ⟨by first | exact rgp_l (rg_eq hr_o0 h_8).1 (by decide) | omega, by first | exact q_f2f34ba2a ha2 hq2 | omega⟩
    have h_240 : ¬ (up (up (up c_231 41 5 (nx F e1 p0)) 41 6 3) 41 7 (o0 + 1)) 41 5 = -1 := by rw [show (up (up (up c_231 41 5 (nx F e1 p0)) 41 6 3) 41 7 (o0 + 1)) 41 5 = (nx F e1 p0) from ((up_n (by decide)).trans ((up_n (by decide)).trans (up_e rfl)))]; omega
    refine v_cv c_176_23 km_8_251 rfl rfl (Nat.le_of_ble_eq_true rfl) ⟨⟨rfl, rfl⟩, Nat.le_of_ble_eq_true rfl, rfl⟩ (Nat.le_of_ble_eq_true rfl) (Nat.le_of_ble_eq_true rfl) (n_174 hI_239 (by omega) (bk_inl (q_aload_n c_176_26 rfl (v_bip c_176_27 (by decide) (v_cv c_176_29 km_8_229 rfl rfl (Nat.le_of_ble_eq_true rfl) ⟨⟨rfl, rfl⟩, Nat.le_of_ble_eq_true rfl, rfl⟩ (Nat.le_of_ble_eq_true rfl) (Nat.le_of_ble_eq_true rfl) (q_aload_n c_161_0 rfl (v_cv c_161_1 km_8_131 rfl rfl (Nat.le_of_ble_eq_true rfl) ⟨⟨rfl, rfl⟩, Nat.le_of_ble_eq_true rfl, rfl⟩ (Nat.le_of_ble_eq_true rfl) (Nat.le_of_ble_eq_true rfl) (q_aload_n c_152_0 rfl ?_))))))))
    refine v_gi (z := 5) (v := (nx F e1 p0)) c_152_1 kf_8_102 rfl (Nat.le_of_ble_eq_true rfl) rfl rfl ((up_n (by decide)).trans ((up_n (by decide)).trans (up_e rfl))) (q_iconst c_152_4 (v_ic_ne_t (t := 12) c_152_5 rfl ⟨(ne_rg (rg_be h_10 ((rg_eq hg_p0 h_5).1) ((rg_eq hg_e1 h_1).2)) (by decide)), ⟨(Int.le_trans (by decide) (rg_be h_10 ((rg_eq hg_p0 h_5).1) ((rg_eq hg_e1 h_1).2)).1), (Int.le_trans (rg_be h_10 ((rg_eq hg_p0 h_5).1) ((rg_eq hg_e1 h_1).2)).2 (by decide))⟩, by decide, by decide⟩ (q_iconst c_152_12 (v_zret c_152_13 rfl (by decide) (bk_inl (v_if_eq_t (t := 24) c_161_4 rfl (by decide) (q_aload_n c_161_24 rfl ?_)))))))
    refine v_cv c_161_25 km_8_131 rfl rfl (Nat.le_of_ble_eq_true rfl) ⟨⟨rfl, rfl⟩, Nat.le_of_ble_eq_true rfl, rfl⟩ (Nat.le_of_ble_eq_true rfl) (Nat.le_of_ble_eq_true rfl) (q_aload_n c_152_0 rfl (v_gi (z := 5) (v := (nx F e1 p0)) c_152_1 kf_8_102 rfl (Nat.le_of_ble_eq_true rfl) rfl rfl ((up_n (by decide)).trans ((up_n (by decide)).trans (up_e rfl))) (q_iconst c_152_4 (v_ic_ne_t (t := 12) c_152_5 rfl ⟨(ne_rg (rg_be h_10 ((rg_eq hg_p0 h_5).1) ((rg_eq hg_e1 h_1).2)) (by decide)), ⟨(Int.le_trans (by decide) (rg_be h_10 ((rg_eq hg_p0 h_5).1) ((rg_eq hg_e1 h_1).2)).1), (Int.le_trans (rg_be h_10 ((rg_eq hg_p0 h_5).1) ((rg_eq hg_e1 h_1).2)).2 (by decide))⟩, by decide, by decide⟩ (q_iconst c_152_12 (v_zret c_152_13 rfl (by decide) (bk_inl ?_)))))))
    refine v_if_eq_t (t := 41) c_161_28 rfl (by decide) (q_vret rfl rfl (bk_inl (q_aload_n c_176_32 rfl (q_dup c_176_33 rfl (v_gi (z := 7) (v := o0 + 1) c_176_34 kf_8_142 rfl (Nat.le_of_ble_eq_true rfl) rfl rfl (up_e rfl) (q_iconst c_176_37 (v_isub (v := o0) c_176_38 (by first | (clear ha2 hq0 hq1 hq2 hq3 hq4 hq5 hq6 h_1 hg_e1 h_2 hr_e1 h_3 hg_f0 h_4 hg_g0 h_5 hg_p0 h_6 hg_n0 h_7 hr_n0 h_8 hr_o0 h_9 h_10 h_11 h_32 h_39 h_212 h_213 h_214 h_215 h_216 h_217 h_221 h_222 h_223 h_224 h_225 h_226 h_227 h_228 h_230 h_12 h_21 h_229; omega) | omega) ?_)))))))
    refine v_pi (z := 7) c_176_39 kf_8_142 rfl (Nat.le_of_ble_eq_true rfl) rfl rfl rfl (by decide) (q_goto (t := 154) c_176_42 rfl (q_vret rfl rfl ?_))
    have hI_241 := iw_41_7 (v := o0) hI_239 ⟨(rg_eq hr_o0 h_8).1, (rg_eq hr_o0 h_8).2⟩
    have h_242 : (up (up (up (up c_231 41 5 (nx F e1 p0)) 41 6 3) 41 7 (o0 + 1)) 41 7 o0) 41 5 = (nx F e1 p0) := ((up_n (by decide)).trans ((up_n (by decide)).trans ((up_n (by decide)).trans (up_e rfl))))
    have h_243 : (up (up (up (up c_231 41 5 (nx F e1 p0)) 41 6 3) 41 7 (o0 + 1)) 41 7 o0) 41 4 = (nx F e1 p0) := ((up_n (by decide)).trans ((up_n (by decide)).trans ((up_n (by decide)).trans ((up_n (by decide)).trans (h_234)))))
    have h_244 : (up (up (up (up c_231 41 5 (nx F e1 p0)) 41 6 3) 41 7 (o0 + 1)) 41 7 o0) 41 6 = 3 := ((up_n (by decide)).trans ((up_n (by decide)).trans (up_e rfl)))
    have kn_245 : Hid (c_231 41 29 = n0) := (hF_233 41 29 (fun h => absurd h.2 (ni rfl))).trans (hr_n0)
    have h_246 : (up (up (up (up c_231 41 5 (nx F e1 p0)) 41 6 3) 41 7 (o0 + 1)) 41 7 o0) 41 29 = n0 := ((up_n (by decide)).trans ((up_n (by decide)).trans ((up_n (by decide)).trans ((up_n (by decide)).trans (hid kn_245)))))
    have h_247 : (up (up (up (up c_231 41 5 (nx F e1 p0)) 41 6 3) 41 7 (o0 + 1)) 41 7 o0) 41 7 = o0 := (up_e rfl)
    have h_248 : (up (up (up (up c_231 41 5 (nx F e1 p0)) 41 6 3) 41 7 (o0 + 1)) 41 7 o0) 41 29 = n0 := ((up_n (by decide)).trans ((up_n (by decide)).trans ((up_n (by decide)).trans ((up_n (by decide)).trans (hid kn_245)))))
    exact K (up (up (up (up c_231 41 5 (nx F e1 p0)) 41 6 3) 41 7 (o0 + 1)) 41 7 o0)  hI_241 (fun a j hm => (up_b (Decidable.or_iff_not_imp_left.mpr (fun h1 h2 => hm (Or.inr (Or.inr (Or.inr (Or.inl ⟨Decidable.not_not.mp h1, h2⟩))))))).trans ((up_b (Decidable.or_iff_not_imp_left.mpr (fun h1 h2 => hm (Or.inr (Or.inr (Or.inr (Or.inl ⟨Decidable.not_not.mp h1, h2⟩))))))).trans ((up_b (Decidable.or_iff_not_imp_left.mpr (fun h1 h2 => hm (Or.inr (Or.inr (Or.inl ⟨Decidable.not_not.mp h1, h2⟩)))))).trans ((up_b (Decidable.or_iff_not_imp_left.mpr (fun h1 h2 => hm (Or.inr (Or.inl ⟨Decidable.not_not.mp h1, h2⟩))))).trans (hF_233 a j (fun h => hm (Or.inl h))))))) (rt_i2 ⟨⟨by first | exact q_fcb6ff4be h_213 | omega, by first | exact q_c99d6ea93 h_212 | omega⟩, by first | exact q_88dc5fb99 h_217 | omega, by first | exact q_03eff2842 h_10 h_217 h_5 hg_p0 | omega, by first | exact q_bff6e6fd4 h_212 h_213 | omega⟩) (Or.inr (Or.inl (by first | exact q_33afb0047 h_213 | omega))) (by first | exact q_cea541e22 hq2 | omega) (fun hz => absurd hz (by first | exact q_118495b55 h_213 | omega))

