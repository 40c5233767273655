/-! ===== class and reference side by side 5 ===== -/
theorem q_de1dfa7bd {x0 x1 x2 x3 x4 : Int} (f0 : x0 ≤ x1 ∧ x1 ≤ x2) (f1 : (x3 ≤ x0)) (f2 : (x2 ≤ 150)) (f3 : (x1 < x2 ∧ x4 ≥ 48 ∧ x4 ≤ 57)) : x3 < 150 := by omega
theorem q_58df2e794 {x0 x1 x2 x3 x4 : Int} (f0 : x0 ≤ x1 ∧ x1 ≤ x2) (f1 : (x3 ≤ x0)) (f2 : (x2 ≤ 150)) (f3 : (x1 < x2 ∧ x4 ≥ 48 ∧ x4 ≤ 57)) : x3 + 1 ≤ 150 := by omega
theorem q_8c171d15b {x0 x1 x2 : Int} (f0 : (x0 ≤ 150)) (f1 : (x1 < x0 ∧ x2 ≥ 48 ∧ x2 ≤ 57)) : x1 < 600 := by omega
theorem q_bbb977161 {x0 x1 x2 : Int} (f0 : (x0 < x1 ∧ x2 ≥ 48 ∧ x2 ≤ 57)) : ¬ x2 = 32 := by omega
theorem q_6a69704ab {x0 x1 x2 x3 x4 x5 : Int} (f0 : (x0 = 0 ∧ x1 = -1 ∧ x2 = x3 ∧ x4 = -1) ∨ ((1 ≤ x0 ∧ x0 ≤ 3) ∧ x1 = x4 ∧ 0 ≤ x4 ∧ x5 = x0)) (f1 : x1 ≠ (-1)) : ¬ x0 = 0 := by omega
theorem q_29c3ca2ed {x0 x1 x2 x3 x4 x5 x6 : Int} (f0 : x0 = x1) (f1 : (x1 = 0 ∧ x2 = -1 ∧ x3 = x4 ∧ x5 = -1) ∨ ((1 ≤ x1 ∧ x1 ≤ 3) ∧ x2 = x5 ∧ 0 ≤ x5 ∧ x6 = x1)) (f2 : x2 ≠ (-1)) : 1 ≤ x0 := by omega
theorem q_47f3d6327 {x0 x1 x2 x3 x4 x5 x6 : Int} (f0 : x0 = x1) (f1 : (x2 = 0 ∧ x3 = -1 ∧ x4 = x5 ∧ x1 = -1) ∨ ((1 ≤ x2 ∧ x2 ≤ 3) ∧ x3 = x1 ∧ 0 ≤ x1 ∧ x6 = x2)) (f2 : x3 ≠ (-1)) : 0 ≤ x0 := by omega
theorem q_efe7f3595 {x0 x1 x2 x3 x4 x5 x6 : Int} (f0 : x0 = x1) (f1 : (x1 = 0 ∧ x2 = -1 ∧ x3 = x4 ∧ x5 = -1) ∨ ((1 ≤ x1 ∧ x1 ≤ 3) ∧ x2 = x5 ∧ 0 ≤ x5 ∧ x6 = x1)) (f2 : x2 ≠ (-1)) : 0 < x0 := by omega
theorem q_cdc969f24 {x0 x1 x2 x3 x4 x5 x6 : Int} (f0 : x0 = x1) (f1 : (x1 = 0 ∧ x2 = -1 ∧ x3 = x4 ∧ x5 = -1) ∨ ((1 ≤ x1 ∧ x1 ≤ 3) ∧ x2 = x5 ∧ 0 ≤ x5 ∧ x6 = x1)) (f2 : x2 ≠ (-1)) : ¬ x0 = 0 := by omega
theorem q_c79914a7d {x0 x1 : Int} (f0 : 0 ≤ x0 ∧ x0 ≤ 150) (f1 : x0 = x1 + 1) : x1 < 150 := by omega
theorem q_3f514e957 {x0 x1 : Int} (f0 : 0 ≤ x0 ∧ x0 ≤ 150) (f1 : x0 = x1 + 1) : x1 + 1 ≤ 150 := by omega
theorem q_1ff7382ef {x0 x1 x2 x3 x4 x5 : Int} (f0 : 0 ≤ x0 ∧ x0 ≤ 3) (f1 : (x0 = 0 ∧ x1 = -1 ∧ x2 = x3 ∧ x4 = -1) ∨ ((1 ≤ x0 ∧ x0 ≤ 3) ∧ x1 = x4 ∧ 0 ≤ x4 ∧ x5 = x0)) (f2 : ¬ (x1 ≠ (-1))) : x0 = 0 := by omega
theorem qn_e90b43228 {A : Nat} {j : Int} (hA : A = 13 ∨ A = 25) : ¬ (((A + 9) = 1 ∧ j = 2) ∨ ((A + 9) = 1 ∧ j = 4) ∨ ((A + 9) = 1 ∧ j = 5)) := (fun q => q.elim (fun h => absurd h.1 (np hA rfl rfl)) (fun q => q.elim (fun h => absurd h.1 (np hA rfl rfl)) (fun h => absurd h.1 (np hA rfl rfl))))
theorem q_7bd5798e1 {x0 : Int} (f0 : (x0 ≤ 999) ∨ (x0 = 0)) : x0 < 1000 := by omega
theorem q_be8a0cc01 {x0 x1 x2 x3 x4 x5 x6 : Int} (f0 : 0 ≤ x0 ∧ x0 ≤ 3) (f1 : x0 = x1) (f2 : (x1 = 0 ∧ x2 = -1 ∧ x3 = x4 ∧ x5 = -1) ∨ ((1 ≤ x1 ∧ x1 ≤ 3) ∧ x2 = x5 ∧ 0 ≤ x5 ∧ x6 = x1)) (f3 : ¬ (x2 ≠ (-1))) : x0 = 0 := by omega
theorem q_06cfdc870 {x0 x1 x2 x3 x4 x5 x6 : Int} (f0 : (-1) ≤ x0 ∧ x0 ≤ 600) (f1 : x0 = x1) (f2 : (x2 = 0 ∧ x3 = -1 ∧ x4 = x5 ∧ x1 = -1) ∨ ((1 ≤ x2 ∧ x2 ≤ 3) ∧ x3 = x1 ∧ 0 ≤ x1 ∧ x6 = x2)) (f3 : ¬ (x3 ≠ (-1))) : x0 = (-1) := by omega
theorem q_359b0f49c {x0 x1 x2 x3 x4 x5 x6 x7 x8 x9 x10 : Int} (f0 : x0 ≤ x1 ∧ x1 ≤ x2) (f1 : x3 = x4) (f2 : (x5 < 0) ∨ (x5 > 0) ∨ (x4 > x1 ∧ x4 ≤ x2)) (f3 : (x5 = 0 ∧ x6 = -1 ∧ x7 = x4 ∧ x8 = -1) ∨ ((1 ≤ x5 ∧ x5 ≤ 3) ∧ x6 = x8 ∧ 0 ≤ x8 ∧ x9 = x5)) (f4 : ¬ (x6 ≠ (-1))) : x10 + x0 + 1 ≤ x3 + x10 := by omega
theorem q_1afdc5055 {x0 x1 x2 x3 x4 x5 x6 x7 x8 : Int} (f0 : x0 = x1) (f1 : (x2 < 0) ∨ (x2 > 0) ∨ (x1 > x3 ∧ x1 ≤ x4)) (f2 : (x2 = 0 ∧ x5 = -1 ∧ x6 = x1 ∧ x7 = -1) ∨ ((1 ≤ x2 ∧ x2 ≤ 3) ∧ x5 = x7 ∧ 0 ≤ x7 ∧ x8 = x2)) (f3 : ¬ (x5 ≠ (-1))) : x0 ≤ x4 := by omega
theorem q_98a5f6921 {x0 x1 x2 x3 x4 x5 x6 x7 x8 x9 : Int} (f0 : x0 ≤ x1 ∧ x1 ≤ x2) (f1 : x3 = x4) (f2 : (x5 < 0) ∨ (x5 > 0) ∨ (x4 > x1 ∧ x4 ≤ x2)) (f3 : (x5 = 0 ∧ x6 = -1 ∧ x7 = x4 ∧ x8 = -1) ∨ ((1 ≤ x5 ∧ x5 ≤ 3) ∧ x6 = x8 ∧ 0 ≤ x8 ∧ x9 = x5)) (f4 : ¬ (x6 ≠ (-1))) : x0 ≤ x3 := by omega
set_option maxRecDepth 100000 in
set_option maxHeartbeats 4000000 in
theorem L_14_a {sc : List Int32} {e eg : Int} {d dh u ug P Q P2 Q2 A : Nat} {c m m9 : ME} {a2 e1 f0 g0 p0 n0 o0 : Int} {F H : Int → Int} {Z : AR → Prop} (hI : Iv u e P2 Q2 c) (hJ : Iv ug eg P Q m) (hJ9 : Iv ug eg P Q m9) (hA : A = 13 ∨ A = 25) (ha2 : 0 ≤ a2 ∧ a2 ≤ 6) (hq0 : (f0 = 0)) (hq1 : (g0 = (-1))) (hq2 : (o0 = a2)) (hq3 : (n0 ≤ p0)) (hq4 : (p0 ≤ e1)) (hq5 : (e1 ≤ 150)) (hq6 : ((nx F e1 p0) < e1 ∧ (F (nx F e1 p0)) ≥ 48 ∧ (F (nx F e1 p0)) ≤ 57)) (hg_e1 : m 1 1 = e1) (hr_e1 : c 41 3 = e1) (hg_f0 : m 1 4 = f0) (hg_g0 : m 1 5 = g0) (hg_p0 : m 1 2 = p0) (hg_n0 : m (A + 7) 5 = n0) (hr_n0 : c 41 29 = n0) (hr_o0 : c 41 7 = o0) (hF : ∀ j : Int, m 2 j = F j) (hH : ∀ j : Int, c 43 j = H j) (hU : Ub F H) (hRt : Rt m c) (hr0 : Ce n0 (m (A + 9)) (c 50) (c 51)) (H13 : ∀ {d9 : Nat} {c m m9 : ME} {e1 f0 g0 p0 n0 o0 : Int} {Z : AR → Prop}, d ≤ d9 → a2 + 1 ≤ 6 → (Iv u e P2 Q2 c) → (Iv ug eg P Q m) → (Iv ug eg P Q m9) → (0 ≤ (a2 + 1) ∧ (a2 + 1) ≤ 6) → ((f0 = 0)) → ((g0 = (-1))) → ((o0 = (a2 + 1))) → ((n0 ≤ p0)) → ((p0 ≤ e1)) → ((e1 ≤ 150)) → (m 1 1 = e1) → (c 41 3 = e1) → (m 1 4 = f0) → (m 1 5 = g0) → (m 1 2 = p0) → (m (A + 7) 5 = n0) → (c 41 29 = n0) → (c 41 7 = o0) → (∀ j : Int, m 2 j = F j) → (∀ j : Int, c 43 j = H j) → (Ub F H) → (Rt m c) → (Ce n0 (m (A + 9)) (c 50) (c 51)) → (Wp sc (dh + 33) 13 0 [(0, .ref (A + 7)), (1, .ref 1), (2, vi (a2 + 1))] [] (Wd P Q P P m) 0 0 (fun q => q = (.inl (none), Wd P Q P P m9, 0, 0))) → (∀ (c2 : ME), Iv u e P2 Q2 c2 → (∀ (a : Nat) (j : Int), ¬ ((a = 41 ∧ j = 4) ∨ (a = 41 ∧ j = 5) ∨ (a = 41 ∧ j = 6) ∨ (a = 41 ∧ j = 7) ∨ (a = 41 ∧ j = 29) ∨ a = 50 ∨ a = 51) → c2 a j = c a j) → (Rt m9 c2) → ((m9 1 4 < 0) ∨ (m9 1 4 > 0) ∨ (m9 (A + 7) 5 = c2 41 29 ∧ c2 41 29 + p0 ≤ m9 1 2 + n0 ∧ m9 1 2 ≤ e1 ∧ m9 1 2 ≥ p0)) → ((c2 41 7 = (a2 + 1))) → (m9 1 4 = 0 → Ce (c2 41 29) (m9 (A + 9)) (c2 50) (c2 51)) → Z (.inl (none), Wd P2 Q2 P2 P2 c2, 0, 0)) → Wp sc (d9 + 32) 174 0 [(0, .ref 41)] [] (Wd P2 Q2 P2 P2 c) 0 0 Z) (hG : Wp sc (dh + 34) 14 0 [(0, .ref (A + 7)), (1, .ref 1), (2, vi a2)] [] (Wd P Q P P m) 0 0 (fun q => q = (.inl (none), Wd P Q P P m9, 0, 0))) (K : ∀ (c2 : ME), Iv u e P2 Q2 c2 → (∀ (a : Nat) (j : Int), ¬ ((a = 41 ∧ j = 4) ∨ (a = 41 ∧ j = 5) ∨ (a = 41 ∧ j = 6) ∨ (a = 41 ∧ j = 7) ∨ (a = 41 ∧ j = 29) ∨ a = 50 ∨ a = 51) → c2 a j = c a j) → (Rt m9 c2) → ((m9 1 4 < 0) ∨ (m9 1 4 > 0) ∨ (m9 (A + 7) 5 = c2 41 29 ∧ c2 41 29 + p0 ≤ m9 1 2 + n0 ∧ m9 1 2 ≤ e1 ∧ m9 1 2 ≥ p0)) → ((c2 41 7 = a2)) → (m9 1 4 = 0 → Ce (c2 41 29) (m9 (A + 9)) (c2 50) (c2 51)) → Z (.inl (none), Wd P2 Q2 P2 P2 c2, 0, 0)) : Wp sc (d + 34) 176 0 [(0, .ref 41)] [] (Wd P2 Q2 P2 P2 c) 0 0 Z := by
  have hP := iv_P hJ
  have hQ := iv_Q hJ
  have h_1 := ir_1_1 hJ
  have h_2 := ir_41_3 hI
  have h_3 := ir_1_4 hJ
  have h_4 := ir_1_5 hJ
  have h_5 := ir_1_2 hJ
  have h_6 := ir_p7_5 hJ hA
  have h_7 := ir_41_29 hI
  have h_8 := ir_41_7 hI
  refine gh hG (q_aload_n c_14_0 rfl ?_)
  have h_9 : -2147483648 ≤ (F p0) ∧ (F p0) ≤ 2147483647 := by rw [← hF p0]; exact ir_2 hJ p0
  have h_10 := nx_be (b := F) (e := e1) (a := p0) (by first | exact q_eb7e24553 hq4 | omega)
  have h_11 : -2147483648 ≤ (F (nx F e1 p0)) ∧ (F (nx F e1 p0)) ≤ 2147483647 := by rw [← hF (nx F e1 p0)]; exact ir_2 hJ (nx F e1 p0)
  have h_12 := nx_n (b := F) (e := e1) (a := p0)
  refine v_cv c_14_1 km_0_68 rfl rfl (Nat.le_of_ble_eq_true rfl) ⟨⟨rfl, rfl⟩, Nat.le_of_ble_eq_true rfl, rfl⟩ (Nat.le_of_ble_eq_true rfl) (Nat.le_of_ble_eq_true rfl) (f_6 (e1 := e1) (a9 := p0) (B := F) (r8 := (nx F e1 p0)) hJ ((hg_e1)) ((hg_p0)) (fun j => hF j) rfl (fun c_13 hI_14 hF_15 h_16 hz_17 => (bk_inl (v_if_eq_f (t := 19) c_14_4 rfl (by decide) (q_aload_n c_14_7 rfl (q_aload_n c_14_8 rfl (v_sip c_14_9 (by decide) ?_)))))) (fun c_18 hI_19 hF_20 h_21 hz_22 => by exfalso; omega))
  have kn_23 : Hid (c_13 1 4 = f0) := (hF_15 1 4 (fun h => absurd h.2 (ni rfl))).trans (hg_f0)
  refine v_cv c_14_12 km_0_71 rfl rfl (Nat.le_of_ble_eq_true rfl) ⟨⟨rfl, rfl⟩, Nat.le_of_ble_eq_true rfl, rfl⟩ (Nat.le_of_ble_eq_true rfl) (Nat.le_of_ble_eq_true rfl) (fn_of (s_8 (a1 := 999) hI_14 (show (-1) ≤ 999 ∧ 999 ≤ 9999 from ⟨by decide, by decide⟩) (fun c_24 y_27 hI_25 hF_26 hy_27 h_28 => ?_)))
  intro hG_29
  refine bk_inl (v_cv c_14_15 km_0_59 rfl (ck_p7 hA) (a68 hA rfl) ⟨⟨rfl, rfl⟩, by decide, rfl⟩ (Nat.le_of_ble_eq_true rfl) (Nat.le_of_ble_eq_true rfl) (q_aload_n c_5_0 rfl ?_))
  have kn_30 : Hid (c_13 (A + 7) 5 = n0) := (hF_15 (A + 7) 5 (fun h => absurd h.1 (np hA rfl rfl))).trans (hg_n0)
  have kn_31 : Hid (c_24 (A + 7) 5 = n0) := (hF_26 (A + 7) 5 (qn_3e7b2eb2a hA)).trans (hid kn_30)
  refine v_gi (z := 5) (v := n0) c_5_1 kf_0_28 (ck_p7 hA) (a68 hA rfl) rfl rfl (hid kn_31) (q_aload_n c_5_4 rfl (v_gr (t := (A + 9)) c_5_5 kf_0_15 (ck_p7 hA) (a68 hA rfl) rfl (v_al c_5_8 (ck_p9 hA) (a68 hA rfl) (by decide) (v_ic_ge_f (t := 32) c_5_9 rfl ⟨(Int.le_trans (by decide) (rg_eq hg_n0 h_6).1), by first | exact q_de1dfa7bd h_10 hq3 hq5 hq6 | omega, by decide⟩ (q_aload_n c_5_12 rfl (v_gr (t := (A + 9)) c_5_13 kf_0_15 (ck_p7 hA) (a68 hA rfl) rfl (q_aload_n c_5_16 rfl ?_)))))))
  refine v_gi (z := 5) (v := n0) c_5_17 kf_0_28 (ck_p7 hA) (a68 hA rfl) rfl rfl (hid kn_31) (q_iload_n c_5_20 rfl (v_is c_5_21 (ck_p9 hA) (a68 hA rfl) (by decide) ⟨(rg_eq hg_n0 h_6).1, by first | exact q_de1dfa7bd h_10 hq3 hq5 hq6 | omega⟩ (q_aload_n c_5_22 rfl (q_dup c_5_23 rfl (v_gi (z := 5) (v := n0) c_5_24 kf_0_28 (ck_p7 hA) (a68 hA rfl) rfl rfl ((up_c (pp rfl)).trans (hid kn_31)) (q_iconst c_5_27 (v_iadd (v := n0 + 1) c_5_28 rfl ?_)))))))
  refine v_pi (z := 5) c_5_29 kf_0_28 (ck_p7 hA) (a68 hA rfl) rfl rfl rfl (by decide) (q_vret rfl rfl (bk_inl (q_vret rfl rfl ?_)))
  have hI_32 := iw_lg (j := n0) (v := y_27) hI_25 (lgp (k := 9) hA (by decide)) ⟨by omega, by omega⟩ (by omega)
  have hI_33 := iw_p7_5 (v := n0 + 1) hI_32 hA ⟨by first | exact rgp_l (rg_eq hg_n0 h_6).1 (by decide) | omega, by first | exact q_58df2e794 h_10 hq3 hq5 hq6 | omega⟩
  intro hE_34
  have hW : Wd P Q P P (up (up c_24 (A + 9) n0 y_27) (A + 7) 5 (n0 + 1)) = Wd P Q P P m9 := (Prod.mk.inj (Prod.mk.inj hE_34).2).1
  have h_35 := ir_1_4 hI_25
  have h_36 := ir_1_4 hJ9
  have h_37 : m9 1 4 = c_24 1 4 := wd_fv (z := 4) 4 rfl hW rfl rfl rfl rfl (by decide) ((up_c (pn hA rfl rfl)).trans (up_c (pn hA rfl rfl))) ⟨(Int.le_trans (by decide) h_35.1), (Int.le_trans h_35.2 (by decide))⟩ ⟨(Int.le_trans (by decide) h_36.1), (Int.le_trans h_36.2 (by decide))⟩
  have h_38 := ir_1_2 hI_25
  have h_39 := ir_1_2 hJ9
  have h_40 : m9 1 2 = c_24 1 2 := wd_fv (z := 2) 2 rfl hW rfl rfl rfl rfl (by decide) ((up_c (pn hA rfl rfl)).trans (up_c (pn hA rfl rfl))) ⟨(Int.le_trans (by decide) h_38.1), (Int.le_trans h_38.2 (by decide))⟩ ⟨(Int.le_trans (by decide) h_39.1), (Int.le_trans h_39.2 (by decide))⟩
  have h_41 := ir_1_5 hI_25
  have h_42 := ir_1_5 hJ9
  have h_43 : m9 1 5 = c_24 1 5 := wd_fv (z := 5) 5 rfl hW rfl rfl rfl rfl (by decide) ((up_c (pn hA rfl rfl)).trans (up_c (pn hA rfl rfl))) ⟨(Int.le_trans (by decide) h_41.1), (Int.le_trans h_41.2 (by decide))⟩ ⟨(Int.le_trans (by decide) h_42.1), (Int.le_trans h_42.2 (by decide))⟩
  have h_44 := ir_p7_5 hJ9 hA
  have h_45 : m9 (A + 7) 5 = n0 + 1 := wd_fv (z := 5) 5 rfl hW (ck_p7 hA) (ck_p7 hA) rfl rfl (a68 hA rfl) (up_e rfl) ⟨by first | exact rgp_l (rg_eq hg_n0 h_6).1 (by decide) | omega, by first | exact rgp_h (rg_eq hg_n0 h_6).2 (by decide) | omega⟩ ⟨(Int.le_trans (by decide) h_44.1), (Int.le_trans h_44.2 (by decide))⟩
  refine q_aload_n c_176_0 rfl (v_cv c_176_1 km_8_131 rfl rfl (Nat.le_of_ble_eq_true rfl) ⟨⟨rfl, rfl⟩, Nat.le_of_ble_eq_true rfl, rfl⟩ (Nat.le_of_ble_eq_true rfl) (Nat.le_of_ble_eq_true rfl) (q_aload_n c_152_0 rfl ?_))
  have h_46 := ir_41_5 hI
  have h_47 := ir_41_4 hI
  have h_48 := ir_41_6 hI
  have h_49 := rt_ok hRt (by first | exact q_2cabce820 h_3 hg_f0 hq0 | omega)
  have hro_hRt := rt_ok hRt (by first | exact q_f9c88a064 hq0 | omega)
  refine v_gi (z := 5) (v := (-1)) c_152_1 kf_8_102 rfl (Nat.le_of_ble_eq_true rfl) rfl rfl hro_hRt.2.1 (q_iconst c_152_4 (v_ic_ne_f (t := 12) c_152_5 rfl (by decide) (q_iconst c_152_8 (q_goto (t := 13) c_152_9 rfl (v_zret c_152_13 rfl (by decide) (bk_inl (v_if_ne_t (t := 8) c_176_4 rfl (by decide) ?_)))))))
  refine q_aload_n c_176_8 rfl ?_
  have h_50 : -2147483648 ≤ (H (nx F e1 p0)) ∧ (H (nx F e1 p0)) ≤ 2147483647 := by rw [← hH (nx F e1 p0)]; exact ir_43 hI (nx F e1 p0)
  have h_51 := hU (nx F e1 p0) ((rg_be h_10 ((rg_eq hg_p0 h_5).1) ((rg_eq hg_e1 h_1).2)).1) (by first | exact q_8c171d15b hq5 hq6 | omega)
  have h_52 := hb_or (b := H) (e := e1) (r := (nx F e1 p0))
  have h_53 := hb_bd (b := H) (e := e1) (r := (nx F e1 p0)) (lo := -2147483648) (hi := 2147483647) h_50 (by decide)
  refine v_cv c_176_9 km_8_114 rfl rfl (Nat.le_of_ble_eq_true rfl) ⟨⟨rfl, rfl⟩, Nat.le_of_ble_eq_true rfl, rfl⟩ (Nat.le_of_ble_eq_true rfl) (Nat.le_of_ble_eq_true rfl) (f_154 (e1 := e1) (a9 := p0) (B := H) (r8 := (nx F e1 p0)) (r := (hb H e1 (nx F e1 p0))) hI ((hr_e1)) (((hro_hRt.2.2.1).trans ((hg_p0)))) (fun j => hH j) ((nx_tr hU ((rg_eq hg_p0 h_5).1) ((rg_eq hg_e1 h_1).2)).trans (rfl)) rfl (fun c_54 hI_55 hF_56 h_57 => (bk_inl (v_bip c_176_12 (by decide) (v_ic_ne_t (t := 45) c_176_14 rfl ⟨by first | (clear ha2 hq0 hq1 hq2 hq3 hq4 hq5 hq6 h_1 hg_e1 h_2 hr_e1 h_3 hg_f0 h_4 hg_g0 h_5 hg_p0 h_6 hg_n0 h_7 hr_n0 h_8 hr_o0 h_9 h_10 h_11 h_35 h_36 h_37 h_38 h_39 h_40 h_41 h_42 h_43 h_44 h_45 h_46 h_47 h_48 h_49 h_50 h_53 h_12 h_28; omega) | omega, ⟨h_53.1, h_53.2⟩, by decide, by decide⟩ (q_aload_n c_176_45 rfl ?_))))))
  have kn_58 : Hid (c_54 41 3 = e1) := (hF_56 41 3 (fun h => absurd h.2 (ni rfl))).trans (hr_e1)
  refine v_cv c_176_46 km_8_114 rfl rfl (Nat.le_of_ble_eq_true rfl) ⟨⟨rfl, rfl⟩, Nat.le_of_ble_eq_true rfl, rfl⟩ (Nat.le_of_ble_eq_true rfl) (Nat.le_of_ble_eq_true rfl) (f_154 (e1 := e1) (a9 := (nx F e1 p0)) (B := H) (r8 := (nx F e1 p0)) (r := (hb H e1 (nx F e1 p0))) hI_55 ((hid kn_58)) ((h_57)) (fun j => (hF_56 43 j (fun h => absurd h.1 (nn rfl))).trans (hH j)) ((nx_tr hU ((rg_be h_10 ((rg_eq hg_p0 h_5).1) ((rg_eq hg_e1 h_1).2)).1) ((rg_eq hg_e1 h_1).2)).trans ((nx_z (Or.inr (by first | exact q_bbb977161 hq6 | omega))))) rfl (fun c_59 hI_60 hF_61 h_62 => (bk_inl (q_call c_176_49 rfl rfl rfl (f_156 (a0 := (hb H e1 (nx F e1 p0))) hI_60 (show (-2147483648) ≤ (hb H e1 (nx F e1 p0)) ∧ (hb H e1 (nx F e1 p0)) ≤ 2147483647 from h_53) (fun y_63 hy_63 h_64 => (bk_inl (v_if_eq_f (t := 71) c_176_52 rfl ⟨by first | (clear ha2 hq0 hq1 hq2 hq3 hq4 hq5 hq6 h_1 hg_e1 h_2 hr_e1 h_3 hg_f0 h_4 hg_g0 h_5 hg_p0 h_6 hg_n0 h_7 hr_n0 h_8 hr_o0 h_9 h_10 h_11 h_35 h_36 h_37 h_38 h_39 h_40 h_41 h_42 h_43 h_44 h_45 h_46 h_47 h_48 h_49 h_50 h_53 h_12 h_28; omega) | omega, ⟨(Int.le_trans (by decide) hy_63.1), (Int.le_trans hy_63.2 (by decide))⟩, by decide, by decide⟩ (q_aload_n c_176_55 rfl (q_iconst c_176_56 (q_aload_n c_176_57 rfl ?_)))))))))))
  refine q_iconst c_176_58 (v_sip c_176_59 (by decide) ?_)
  have kn_65 : Hid (c_13 1 1 = e1) := (hF_15 1 1 (fun h => absurd h.2 (ni rfl))).trans (hg_e1)
  have kn_66 : Hid (c_59 41 3 = e1) := (hF_61 41 3 (fun h => absurd h.2 (ni rfl))).trans (hid kn_58)
  have h_67 : c_13 1 4 = f0 := (hid kn_23)
  have h_68 : c_13 1 2 = (nx F e1 p0) := (hz_17)
  have kn_69 : Hid (c_13 1 5 = g0) := (hF_15 1 5 (fun h => absurd h.2 (ni rfl))).trans (hg_g0)
  have h_70 : c_13 1 5 = g0 := (hid kn_69)
  have kn_71 : Hid (c_54 41 5 = (-1)) := (hF_56 41 5 (fun h => absurd h.2 (ni rfl))).trans hro_hRt.2.1
  have kn_72 : Hid (c_59 41 5 = (-1)) := (hF_61 41 5 (fun h => absurd h.2 (ni rfl))).trans (hid kn_71)
  have h_73 : c_59 41 5 = (-1) := (hid kn_72)
  have h_74 : c_59 41 4 = (nx F e1 p0) := (h_62)
  have kn_75 : Hid (c_54 41 6 = c 41 6) := hF_56 41 6 (fun h => absurd h.2 (ni rfl))
  have kn_76 : Hid (c_59 41 6 = c 41 6) := (hF_61 41 6 (fun h => absurd h.2 (ni rfl))).trans (hid kn_75)
  have h_77 : c_59 41 6 = c 41 6 := (hid kn_76)
  refine v_cv c_176_62 km_8_199 rfl rfl (Nat.le_of_ble_eq_true rfl) ⟨⟨rfl, rfl⟩, Nat.le_of_ble_eq_true rfl, rfl⟩ (Nat.le_of_ble_eq_true rfl) (Nat.le_of_ble_eq_true rfl) (L_8 (m := c_13) (a2 := 999) (yg := y_27) (e1 := e1) (a9 := (nx F e1 p0)) (f0 := f0) (F := F) (H := H) hI_60 hI_14 hI_25 (show (-1) ≤ 999 ∧ 999 ≤ 9999 from ⟨by decide, by decide⟩) ⟨(Int.le_trans (by decide) hy_27.1), (Int.le_trans hy_27.2 (by decide))⟩ ((hid kn_65)) ((hid kn_66)) ((hz_17)) ((hid kn_23)) (fun j => (hF_15 2 j (fun h => absurd h.1 (nn rfl))).trans (hF j)) (fun j => ((hF_61 43 j (fun h => absurd h.1 (nn rfl))).trans (hF_56 43 j (fun h => absurd h.1 (nn rfl)))).trans (hH j)) hU (rt_i1 ⟨by first | exact q_f9c88a064 hq0 | omega, by first | assumption | omega, by first | assumption | omega, by first | exact q_ef26995af hq1 | omega⟩) hG_29 (fun c_78 y_81 hI_79 hF_80 hy_81 hR_82 h_83 h_84 h_85 h_86 => (bk_inl ?_)))
  have hs_87 := h_83.symm
  subst hs_87
  refine v_cv c_176_65 km_8_242 rfl rfl (Nat.le_of_ble_eq_true rfl) ⟨⟨rfl, rfl⟩, Nat.le_of_ble_eq_true rfl, rfl⟩ (Nat.le_of_ble_eq_true rfl) (Nat.le_of_ble_eq_true rfl) (q_aload_n c_170_0 rfl (v_cv c_170_1 km_8_131 rfl rfl (Nat.le_of_ble_eq_true rfl) ⟨⟨rfl, rfl⟩, Nat.le_of_ble_eq_true rfl, rfl⟩ (Nat.le_of_ble_eq_true rfl) (Nat.le_of_ble_eq_true rfl) (q_aload_n c_152_0 rfl ?_)))
  have h_88 := ir_41_5 hI_79
  have h_89 := ir_41_4 hI_79
  have h_90 := ir_41_6 hI_79
  have h_91 := rt_or hR_82
  refine v_gi (z := 5) (v := c_78 41 5) c_152_1 kf_8_102 rfl (Nat.le_of_ble_eq_true rfl) rfl rfl rfl (q_iconst c_152_4 ?_)
  by_cases h_92 : c_78 41 5 ≠ (-1)
  · refine v_ic_ne_t (t := 12) c_152_5 rfl ⟨h_92, ⟨(Int.le_trans (by decide) h_88.1), (Int.le_trans h_88.2 (by decide))⟩, by decide, by decide⟩ (q_iconst c_152_12 (v_zret c_152_13 rfl (by decide) (bk_inl (v_if_ne_f (t := 8) c_170_4 rfl (by decide) (q_vret rfl rfl (bk_inl (q_goto (t := 154) c_176_68 rfl ?_)))))))
    refine q_vret rfl rfl ?_
    have hrb_hR_82 := rt_bad hR_82 (by first | exact q_6a69704ab h_91 h_92 | omega)
    have h_93 : c_78 41 5 = c_24 1 5 := hrb_hR_82.2.1
    have h_94 : c_78 41 6 = c_24 1 4 := hrb_hR_82.2.2.2
    have kn_95 : Hid (c_54 41 29 = n0) := (hF_56 41 29 (fun h => absurd h.2 (ni rfl))).trans (hr_n0)
    have kn_96 : Hid (c_59 41 29 = n0) := (hF_61 41 29 (fun h => absurd h.2 (ni rfl))).trans (hid kn_95)
    have kn_97 : Hid (c_78 41 29 = n0) := (hF_80 41 29 qn_56e241d1f).trans (hid kn_96)
    have h_98 : c_78 41 29 = n0 := (hid kn_97)
    have kn_99 : Hid (c_54 41 7 = o0) := (hF_56 41 7 (fun h => absurd h.2 (ni rfl))).trans (hr_o0)
    have kn_100 : Hid (c_59 41 7 = o0) := (hF_61 41 7 (fun h => absurd h.2 (ni rfl))).trans (hid kn_99)
    have kn_101 : Hid (c_78 41 7 = o0) := (hF_80 41 7 qn_fb1117a24).trans (hid kn_100)
    have h_102 : c_78 41 7 = o0 := (hid kn_101)
    have h_103 : c_78 41 29 = n0 := (hid kn_97)
    exact K c_78  hI_79 (fun a j hm => (hF_80 a j (qv_79b37c5f3 hm)).trans ((hF_61 a j (fun h => hm (Or.inl h))).trans (hF_56 a j (fun h => hm (Or.inl h))))) (rt_i2 ⟨⟨by first | exact q_29c3ca2ed h_37 h_91 h_92 | omega, by first | exact q_c99d6ea93 h_36 | omega⟩, by first | exact q_88dc5fb99 h_43 | omega, by first | exact q_47f3d6327 h_43 h_91 h_92 | omega, by first | exact q_88dc5fb99 h_37 | omega⟩) (Or.inr (Or.inl (by first | exact q_efe7f3595 h_37 h_91 h_92 | omega))) (by first | exact q_cea541e22 hq2 | omega) (fun hz => absurd hz (by first | exact q_cdc969f24 h_37 h_91 h_92 | omega))
  · refine v_ic_ne_f (t := 12) c_152_5 rfl (Decidable.not_not.mp h_92) (q_iconst c_152_8 (q_goto (t := 13) c_152_9 rfl (v_zret c_152_13 rfl (by decide) (bk_inl (v_if_ne_t (t := 8) c_170_4 rfl (by decide) (q_aload_n c_170_8 rfl (v_gr (t := 50) c_170_9 kf_8_41 rfl (Nat.le_of_ble_eq_true rfl) rfl ?_)))))))
    refine q_aload_n c_170_12 rfl ?_
    have kn_104 : Hid (c_54 41 29 = n0) := (hF_56 41 29 (fun h => absurd h.2 (ni rfl))).trans (hr_n0)
    have kn_105 : Hid (c_59 41 29 = n0) := (hF_61 41 29 (fun h => absurd h.2 (ni rfl))).trans (hid kn_104)
    have kn_106 : Hid (c_78 41 29 = n0) := (hF_80 41 29 qn_56e241d1f).trans (hid kn_105)
    refine v_gi (z := 29) (v := n0) c_170_13 kf_8_236 rfl (Nat.le_of_ble_eq_true rfl) rfl rfl (hid kn_106) (q_iload_n c_170_16 rfl (v_is c_170_17 rfl (by decide) (by decide) ⟨(rg_eq hg_n0 h_6).1, by first | exact q_c79914a7d h_44 h_45 | omega⟩ (q_aload_n c_170_18 rfl (v_gr (t := 51) c_170_19 kf_8_44 rfl (Nat.le_of_ble_eq_true rfl) rfl (q_aload_n c_170_22 rfl (v_gi (z := 29) (v := n0) c_170_23 kf_8_236 rfl (Nat.le_of_ble_eq_true rfl) rfl rfl ((up_c (nn rfl)).trans (hid kn_106)) (q_iload_n c_170_26 rfl ?_)))))))
    refine v_is c_170_27 rfl (by decide) (by decide) ⟨(rg_eq hg_n0 h_6).1, by first | exact q_c79914a7d h_44 h_45 | omega⟩ (q_aload_n c_170_28 rfl (q_dup c_170_29 rfl (v_gi (z := 29) (v := n0) c_170_30 kf_8_236 rfl (Nat.le_of_ble_eq_true rfl) rfl rfl ((up_c (nn rfl)).trans ((up_c (nn rfl)).trans (hid kn_106))) (q_iconst c_170_33 (v_iadd (v := n0 + 1) c_170_34 rfl (v_pi (z := 29) c_170_35 kf_8_236 rfl (Nat.le_of_ble_eq_true rfl) rfl rfl rfl (by decide) (q_vret rfl rfl ?_)))))))
    refine bk_inl (q_goto (t := 154) c_176_68 rfl (q_vret rfl rfl ?_))
    have hI_107 := iw_50 (j := n0) (v := 0) hI_79 ⟨by decide, by decide⟩
    have hI_108 := iw_51 (j := n0) (v := y_27) hI_107 ⟨hy_27.1, by first | exact q_dec870c4c h_28 | omega⟩
    have hI_109 := iw_41_29 (v := n0 + 1) hI_108 ⟨by first | exact rgp_l (rg_eq hg_n0 h_6).1 (by decide) | omega, by first | exact q_3f514e957 h_44 h_45 | omega⟩
    have hro_hR_82 := rt_ok hR_82 (by first | exact q_1ff7382ef h_35 h_91 h_92 | omega)
    have h_110 : (up (up (up c_78 50 n0 0) 51 n0 y_27) 41 29 (n0 + 1)) 41 5 = (-1) := ((((up_n (by decide)).trans ((up_c (nn rfl)).trans (up_c (nn rfl))))).trans (hro_hR_82.2.1))
    have h_111 : (up (up (up c_78 50 n0 0) 51 n0 y_27) 41 29 (n0 + 1)) 41 4 = c_24 1 2 := ((((up_n (by decide)).trans ((up_c (nn rfl)).trans (up_c (nn rfl))))).trans (hro_hR_82.2.2.1))
    have h_112 : (up (up (up c_78 50 n0 0) 51 n0 y_27) 41 29 (n0 + 1)) 41 6 = c_78 41 6 := ((up_n (by decide)).trans ((up_c (nn rfl)).trans (up_c (nn rfl))))
    have h_113 : (up (up (up c_78 50 n0 0) 51 n0 y_27) 41 29 (n0 + 1)) 41 29 = n0 + 1 := (up_e rfl)
    have kn_114 : Hid (c_54 41 7 = o0) := (hF_56 41 7 (fun h => absurd h.2 (ni rfl))).trans (hr_o0)
    have kn_115 : Hid (c_59 41 7 = o0) := (hF_61 41 7 (fun h => absurd h.2 (ni rfl))).trans (hid kn_114)
    have kn_116 : Hid (c_78 41 7 = o0) := (hF_80 41 7 qn_fb1117a24).trans (hid kn_115)
    have h_117 : (up (up (up c_78 50 n0 0) 51 n0 y_27) 41 29 (n0 + 1)) 41 7 = o0 := ((up_n (by decide)).trans ((up_c (nn rfl)).trans ((up_c (nn rfl)).trans (hid kn_116))))
    have h_118 : (up (up (up c_78 50 n0 0) 51 n0 y_27) 41 29 (n0 + 1)) 41 29 = n0 + 1 := (up_e rfl)
    have hA_119 : Ce (n0 + 1) ((up (up c_24 (A + 9) n0 y_27) (A + 7) 5 (n0 + 1)) (A + 9)) ((up (up (up c_78 50 n0 0) 51 n0 y_27) 41 29 (n0 + 1)) 50) ((up (up (up c_78 50 n0 0) 51 n0 y_27) 41 29 (n0 + 1)) 51) := ce_w (i := n0) (v := y_27) (w := 0) (o := y_27) hr0 (by omega) ((up_c (pp rfl)).trans (up_e rfl)) ((up_c (nn rfl)).trans ((up_c (nn rfl)).trans (up_e rfl))) ((up_c (nn rfl)).trans (up_e rfl)) (fun j hj => (up_c (pp rfl)).trans ((up_n hj).trans ((hF_26 (A + 9) j (qn_e90b43228 hA)).trans (hF_15 (A + 9) j (fun h => absurd h.1 (np hA rfl rfl)))))) (fun j hj => (up_c (nn rfl)).trans ((up_c (nn rfl)).trans ((up_n hj).trans ((hF_80 50 j qn_a830d9710).trans ((hF_61 50 j (fun h => absurd h.1 (nn rfl))).trans (hF_56 50 j (fun h => absurd h.1 (nn rfl)))))))) (fun j hj => (up_c (nn rfl)).trans ((up_n hj).trans ((up_c (nn rfl)).trans ((hF_80 51 j qn_b10baaf0c).trans ((hF_61 51 j (fun h => absurd h.1 (nn rfl))).trans (hF_56 51 j (fun h => absurd h.1 (nn rfl)))))))) (cr_i0 ⟨by first | (clear ha2 hq0 hq1 hq2 hq3 hq4 hq5 hq6 h_1 hg_e1 h_2 hr_e1 h_3 hg_f0 h_4 hg_g0 h_5 hg_p0 h_6 hg_n0 h_7 hr_n0 h_8 hr_o0 h_9 h_10 h_11 h_16 h_35 h_36 h_37 h_38 h_39 h_40 h_41 h_42 h_43 h_44 h_45 h_46 h_47 h_48 h_49 h_50 h_51 h_53 h_88 h_89 h_90 h_92 h_12 h_28 h_52 h_64 h_84 h_85 h_86 h_91; omega) | omega, by first | exact q_7bd5798e1 h_28 | omega, by decide, by first | assumption | omega⟩)
    have hA_120 : Ce (n0 + 1) (m9 (A + 9)) ((up (up (up c_78 50 n0 0) 51 n0 y_27) 41 29 (n0 + 1)) 50) ((up (up (up c_78 50 n0 0) 51 n0 y_27) 41 29 (n0 + 1)) 51) := ce_l hA_119 (fun j h1 h2 => wd_av hW (ck_p9 hA) (ck_p9 hA) (by decide) (a68 hA rfl) ⟨h1, by omega⟩ rfl (ir_p9 hI_33 hA j) (ir_p9 hJ9 hA j))
    exact K (up (up (up c_78 50 n0 0) 51 n0 y_27) 41 29 (n0 + 1))  hI_109 (fun a j hm => (up_b (Decidable.or_iff_not_imp_left.mpr (fun h1 h2 => hm (Or.inr (Or.inr (Or.inr (Or.inr (Or.inl ⟨Decidable.not_not.mp h1, h2⟩)))))))).trans ((up_b (Decidable.or_iff_not_imp_left.mpr (fun h1 h2 => hm (Or.inr (Or.inr (Or.inr (Or.inr (Or.inr (Or.inr (Decidable.not_not.mp h1)))))))))).trans ((up_b (Decidable.or_iff_not_imp_left.mpr (fun h1 h2 => hm (Or.inr (Or.inr (Or.inr (Or.inr (Or.inr (Or.inl (Decidable.not_not.mp h1)))))))))).trans ((hF_80 a j (qv_79b37c5f3 hm)).trans ((hF_61 a j (fun h => hm (Or.inl h))).trans (hF_56 a j (fun h => hm (Or.inl h)))))))) (rt_i1 ⟨by first | exact q_be8a0cc01 h_36 h_37 h_91 h_92 | omega, by first | assumption | omega, by first | exact q_88dc5fb99 h_40 | omega, by first | exact q_06cfdc870 h_42 h_43 h_91 h_92 | omega⟩) (Or.inr (Or.inr ⟨by first | exact q_4f359956e h_45 | omega, by first | exact q_359b0f49c h_10 h_40 h_84 h_91 h_92 | omega, by first | exact q_1afdc5055 h_40 h_84 h_91 h_92 | omega, by first | exact q_98a5f6921 h_10 h_40 h_84 h_91 h_92 | omega⟩)) (by first | exact q_cea541e22 hq2 | omega) (fun _ => ce_le hA_120 (by omega))

