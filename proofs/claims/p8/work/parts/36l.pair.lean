/-! ===== class and reference side by side 13 ===== -/
theorem q_5146b7f54 {x0 x1 x2 x3 x4 x5 x6 : Int} (f0 : 0 ≤ x0 ∧ x0 ≤ 600) (f1 : x0 = x1) (f2 : (x2 ≥ 1 ∧ x2 ≤ 3 ∧ x3 = x4 ∧ x4 ≥ 0 ∧ x5 = x2) ∨ (x2 = 0 ∧ x4 = (-1) ∧ x3 = x1 ∧ x1 = x6 ∧ x5 = 1)) : ¬ x3 = (-1) := by omega
theorem q_dcb0bb3ef {x0 x1 : Int} (f0 : 0 ≤ x0 ∧ x0 ≤ 3) (f1 : x0 = x1) (f2 : x1 ≠ 0) : 1 ≤ x0 := by omega
theorem q_250bde164 {x0 x1 x2 x3 x4 x5 x6 x7 : Int} (f0 : 0 ≤ x0 ∧ x0 ≤ 600) (f1 : x0 = x1) (f2 : x2 = x3) (f3 : x4 ≠ 0) (f4 : (x4 ≥ 1 ∧ x4 ≤ 3 ∧ x5 = x3 ∧ x3 ≥ 0 ∧ x6 = x4) ∨ (x4 = 0 ∧ x3 = (-1) ∧ x5 = x1 ∧ x1 = x7 ∧ x6 = 1)) : x5 = x2 := by omega
theorem q_32b0dfe7c {x0 x1 x2 x3 x4 x5 x6 : Int} (f0 : x0 = x1) (f1 : x2 ≠ 0) (f2 : (x2 ≥ 1 ∧ x2 ≤ 3 ∧ x3 = x1 ∧ x1 ≥ 0 ∧ x4 = x2) ∨ (x2 = 0 ∧ x1 = (-1) ∧ x3 = x5 ∧ x5 = x6 ∧ x4 = 1)) : 0 ≤ x0 := by omega
theorem q_053640e36 {x0 x1 x2 x3 x4 x5 x6 : Int} (f0 : x0 = x1) (f1 : x1 ≠ 0) (f2 : (x1 ≥ 1 ∧ x1 ≤ 3 ∧ x2 = x3 ∧ x3 ≥ 0 ∧ x4 = x1) ∨ (x1 = 0 ∧ x3 = (-1) ∧ x2 = x5 ∧ x5 = x6 ∧ x4 = 1)) : x4 = x0 := by omega
theorem q_499a13b0c {x0 x1 : Int} (f0 : 0 ≤ x0 ∧ x0 ≤ 3) (f1 : x0 = x1) (f2 : x1 ≠ 0) : 0 < x0 := by omega
theorem q_a8a084dc8 {x0 x1 x2 x3 x4 x5 : Int} (f0 : ¬ (x0 ≠ 0)) (f1 : (x0 ≥ 1 ∧ x0 ≤ 3 ∧ x1 = x2 ∧ x2 ≥ 0 ∧ x3 = x0) ∨ (x0 = 0 ∧ x2 = (-1) ∧ x1 = x4 ∧ x4 = x5 ∧ x3 = 1)) : x5 ≤ x4 := by omega
theorem q_14e15ec0e {x0 x1 x2 x3 x4 x5 x6 : Int} (f0 : 0 ≤ x0 ∧ x0 ≤ 600) (f1 : x0 = x1) (f2 : ¬ (x2 ≠ 0)) (f3 : (x2 ≥ 1 ∧ x2 ≤ 3 ∧ x3 = x4 ∧ x4 ≥ 0 ∧ x5 = x2) ∨ (x2 = 0 ∧ x4 = (-1) ∧ x3 = x1 ∧ x1 = x6 ∧ x5 = 1)) : ¬ x3 = (-1) := by omega
theorem q_61d4e0e16 {x0 x1 x2 x3 x4 x5 x6 : Int} (f0 : x0 = x1) (f1 : ¬ (x2 ≠ 0)) (f2 : (x2 ≥ 1 ∧ x2 ≤ 3 ∧ x3 = x4 ∧ x4 ≥ 0 ∧ x5 = x2) ∨ (x2 = 0 ∧ x4 = (-1) ∧ x3 = x1 ∧ x1 = x6 ∧ x5 = 1)) : x3 = x0 := by omega
theorem q_8d9b59732 {x0 x1 x2 : Int} (f0 : x0 = x1) (f1 : 0 ≤ x2 ∧ x2 ≤ 600) (f2 : x2 = x1) : 0 ≤ x0 := by omega
theorem q_8172a5a87 {x0 x1 x2 x3 x4 x5 x6 : Int} (f0 : x0 = 1) (f1 : ¬ (x1 ≠ 0)) (f2 : (x1 ≥ 1 ∧ x1 ≤ 3 ∧ x2 = x3 ∧ x3 ≥ 0 ∧ x4 = x1) ∨ (x1 = 0 ∧ x3 = (-1) ∧ x2 = x5 ∧ x5 = x6 ∧ x4 = 1)) : x4 = x0 := by omega
set_option maxRecDepth 100000 in
set_option maxHeartbeats 4000000 in
theorem L_11_13 {sc : List Int32} {e eg : Int} {d dh u ug P Q P2 Q2 : Nat} {c m m9 : ME} {e1 a9 f0 : Int} {F H : Int → Int} {Z : AR → Prop} (hI : Iv u e P2 Q2 c) (hJ : Iv ug eg P Q m) (hJ9 : Iv ug eg P Q m9) (hg_e1 : m 1 1 = e1) (hr_e1 : c 41 3 = e1) (hg_a9 : m 1 2 = a9) (hg_f0 : m 1 4 = f0) (hF : ∀ j : Int, m 2 j = F j) (hH : ∀ j : Int, c 43 j = H j) (hU : Ub F H) (hRt : Rt m c) (hG : Wp sc (dh + 14) 11 0 [(0, .ref 1), (1, .ref (a_SB + 13))] [] (Wd P Q P P m) 0 0 (fun q => q = (.inl (none), Wd P Q P P m9, 0, 0))) (K : ∀ (c2 : ME), Iv u e P2 Q2 c2 → (∀ (a : Nat) (j : Int), ¬ ((a = 41 ∧ j = 4) ∨ (a = 41 ∧ j = 5) ∨ (a = 41 ∧ j = 6)) → c2 a j = c a j) → (Rt m9 c2) → ((m9 1 4 < 0) ∨ (m9 1 4 > 0) ∨ (m9 1 2 > a9 ∧ m9 1 2 ≤ e1)) → ((m9 1 4 < 0) ∨ (m9 1 4 > 0) ∨ (f0 = 0)) → Z (.inl (none), Wd P2 Q2 P2 P2 c2, 0, 0)) : Wp sc (d + 14) 161 0 [(0, .ref 41), (1, vi 59)] [] (Wd P2 Q2 P2 P2 c) 0 0 Z := by
  have hP := iv_P hJ
  have hQ := iv_Q hJ
  have h_1 := ir_1_1 hJ
  have h_2 := ir_41_3 hI
  have h_3 := ir_1_2 hJ
  have h_4 := ir_1_4 hJ
  refine gh hG ?_
  by_cases hs9 : m 1 4 = 0
  · skip
    have hs8 := (rt_ok hRt hs9).2.2.2
    refine q_aload_n c_11_0 rfl (v_cv c_11_1 km_5_45 rfl rfl (Nat.le_of_ble_eq_true rfl) ⟨⟨rfl, rfl⟩, Nat.le_of_ble_eq_true rfl, rfl⟩ (Nat.le_of_ble_eq_true rfl) (Nat.le_of_ble_eq_true rfl) (q_aload_n c_2_0 rfl (v_gi (z := 4) (v := 0) c_2_1 kf_5_38 rfl (Nat.le_of_ble_eq_true rfl) rfl rfl (hs9) (v_if_ne_f (t := 11) c_2_4 rfl (by decide) (q_iconst c_2_7 (q_goto (t := 12) c_2_8 rfl (v_zret c_2_12 rfl (by decide) ?_)))))))
    refine bk_inl (v_if_eq_f (t := 25) c_11_4 rfl (by decide) (q_aload_n c_11_7 rfl (q_aload_n c_11_8 rfl (v_cv c_11_9 km_5_65 rfl rfl (Nat.le_of_ble_eq_true rfl) ⟨⟨rfl, rfl⟩, Nat.le_of_ble_eq_true rfl, rfl⟩ (Nat.le_of_ble_eq_true rfl) (Nat.le_of_ble_eq_true rfl) (q_aload_n c_4_0 rfl ?_)))))
    have h_5 : -2147483648 ≤ (F a9) ∧ (F a9) ≤ 2147483647 := by rw [← hF a9]; exact ir_2 hJ a9
    have h_6 := nx_bd (b := F) (e := e1) (a := a9)
    have h_7 : -2147483648 ≤ (F (nx F e1 a9)) ∧ (F (nx F e1 a9)) ≤ 2147483647 := by rw [← hF (nx F e1 a9)]; exact ir_2 hJ (nx F e1 a9)
    have h_8 := nx_n (b := F) (e := e1) (a := a9)
    refine v_cv c_4_1 km_5_41 rfl rfl (Nat.le_of_ble_eq_true rfl) ⟨⟨rfl, rfl⟩, Nat.le_of_ble_eq_true rfl, rfl⟩ (Nat.le_of_ble_eq_true rfl) (Nat.le_of_ble_eq_true rfl) (f_3 (e1 := e1) (a9 := a9) (B := F) (r8 := (nx F e1 a9)) hJ ((hg_e1)) ((hg_a9)) (fun j => hF j) rfl (fun c_9 hI_10 hF_11 hz_12 => (bk_inl (q_istore_n c_4_4 (Nat.le_of_ble_eq_true rfl) (q_iconst c_4_5 (q_istore_n c_4_6 (Nat.le_of_ble_eq_true rfl) (q_iload_n c_4_7 rfl (q_aload_n c_4_8 rfl (v_sln 1 c_4_9 rfl (by omega) (Nat.le_of_ble_eq_true rfl) (by decide) (by decide) ?_)))))))))
    refine v_ic_ge_f (t := 55) c_4_12 rfl (by decide) (q_iload_n c_4_15 rfl (q_aload_n c_4_16 rfl ?_))
    have kn_13 : Hid (c_9 1 1 = e1) := (hF_11 1 1 (fun h => absurd h.2 (ni rfl))).trans (hg_e1)
    refine v_gi (z := 1) (v := e1) c_4_17 kf_5_32 rfl (Nat.le_of_ble_eq_true rfl) rfl rfl (hid kn_13) ?_
    by_cases h_14 : (nx F e1 a9) ≥ e1
    · refine v_ic_ge_t (t := 55) c_4_20 rfl ⟨(Int.le_trans (by decide) (rg_eq hg_e1 h_1).1), h_14, by first | exact q_b3bd846dd h_2 h_3 h_6 hg_a9 hr_e1 | omega⟩ (q_iconst c_4_55 (q_iret c_4_56 rfl (bk_inl (q_iconst c_11_12 (v_ic_ne_f (t := 25) c_11_13 rfl (by decide) (q_aload_n c_11_16 rfl (q_iconst c_11_17 ?_)))))))
      refine q_aload_n c_11_18 rfl (v_gi (z := 2) (v := (nx F e1 a9)) c_11_19 kf_5_35 rfl (Nat.le_of_ble_eq_true rfl) rfl rfl (hz_12) (v_cv c_11_22 km_5_52 rfl rfl (Nat.le_of_ble_eq_true rfl) ⟨⟨rfl, rfl⟩, Nat.le_of_ble_eq_true rfl, rfl⟩ (Nat.le_of_ble_eq_true rfl) (Nat.le_of_ble_eq_true rfl) (q_aload_n c_7_0 rfl ?_)))
      have kn_15 : Hid (c_9 1 4 = 0) := (hF_11 1 4 (fun h => absurd h.2 (ni rfl))).trans (hs9)
      refine v_gi (z := 4) (v := 0) c_7_1 kf_5_38 rfl (Nat.le_of_ble_eq_true rfl) rfl rfl (hid kn_15) (v_if_ne_f (t := 17) c_7_4 rfl (by decide) (q_aload_n c_7_7 rfl (q_iload_n c_7_8 rfl (v_pi (z := 4) c_7_9 kf_5_38 rfl (Nat.le_of_ble_eq_true rfl) rfl rfl rfl (by decide) (q_aload_n c_7_12 rfl (q_iload_n c_7_13 rfl (v_pi (z := 5) c_7_14 kf_5_15 rfl (Nat.le_of_ble_eq_true rfl) rfl rfl rfl (by decide) ?_)))))))
      refine q_vret rfl rfl (bk_inl (q_vret rfl rfl ?_))
      have hI_16 := iw_1_4 (v := 1) hI_10 ⟨by decide, by decide⟩
      have hI_17 := iw_1_5 (v := (nx F e1 a9)) hI_16 ⟨by first | exact q_e3021f629 h_3 h_6 hg_a9 | omega, by first | exact q_f657906b2 h_2 h_3 h_6 hg_a9 hr_e1 | omega⟩
      intro hE_18
      have hW : Wd P Q P P (up (up c_9 1 4 1) 1 5 (nx F e1 a9)) = Wd P Q P P m9 := (Prod.mk.inj (Prod.mk.inj hE_18).2).1
      have h_19 := ir_1_4 hJ9
      have h_20 : m9 1 4 = 1 := wd_fv (z := 4) 4 rfl hW rfl rfl rfl rfl (by decide) ((up_n (by decide)).trans (up_e rfl)) ⟨by decide, by decide⟩ ⟨(Int.le_trans (by decide) h_19.1), (Int.le_trans h_19.2 (by decide))⟩
      have h_21 := ir_1_2 hJ9
      have h_22 : m9 1 2 = (nx F e1 a9) := wd_fv (z := 2) 2 rfl hW rfl rfl rfl rfl (by decide) ((up_n (by decide)).trans ((up_n (by decide)).trans (hz_12))) ⟨by first | exact q_a3bce4abb h_3 h_6 hg_a9 | omega, by first | exact q_b3bd846dd h_2 h_3 h_6 hg_a9 hr_e1 | omega⟩ ⟨(Int.le_trans (by decide) h_21.1), (Int.le_trans h_21.2 (by decide))⟩
      have h_23 := ir_1_5 hJ9
      have h_24 : m9 1 5 = (nx F e1 a9) := wd_fv (z := 5) 5 rfl hW rfl rfl rfl rfl (by decide) (up_e rfl) ⟨by first | exact q_17990f574 h_21 h_22 | omega, by first | exact q_757c304f4 h_21 h_22 | omega⟩ ⟨(Int.le_trans (by decide) h_23.1), (Int.le_trans h_23.2 (by decide))⟩
      refine q_aload_n c_161_0 rfl (v_cv c_161_1 km_8_131 rfl rfl (Nat.le_of_ble_eq_true rfl) ⟨⟨rfl, rfl⟩, Nat.le_of_ble_eq_true rfl, rfl⟩ (Nat.le_of_ble_eq_true rfl) (Nat.le_of_ble_eq_true rfl) (q_aload_n c_152_0 rfl ?_))
      have h_25 := ir_41_5 hI
      have h_26 := ir_1_5 hJ
      have h_27 := ir_41_4 hI
      have h_28 := ir_41_6 hI
      have h_29 := rt_ok hRt (by first | (clear h_1 hg_e1 h_2 hr_e1 h_3 hg_a9 hg_f0 h_5 h_6 h_7 h_14 h_19 h_20 h_21 h_22 h_23 h_24 h_25 h_26 h_27 h_28 h_8; omega) | omega)
      have hro_hRt := rt_ok hRt (by first | assumption | omega)
      refine v_gi (z := 5) (v := (-1)) c_152_1 kf_8_102 rfl (Nat.le_of_ble_eq_true rfl) rfl rfl hro_hRt.2.1 (q_iconst c_152_4 (v_ic_ne_f (t := 12) c_152_5 rfl (by decide) (q_iconst c_152_8 (q_goto (t := 13) c_152_9 rfl (v_zret c_152_13 rfl (by decide) (bk_inl (v_if_eq_f (t := 24) c_161_4 rfl (by decide) ?_)))))))
      refine q_aload_n c_161_7 rfl ?_
      have h_30 : -2147483648 ≤ (H (nx F e1 a9)) ∧ (H (nx F e1 a9)) ≤ 2147483647 := by rw [← hH (nx F e1 a9)]; exact ir_43 hI (nx F e1 a9)
      have h_31 : (nx F e1 a9) < 600 → (H (nx F e1 a9)) = (F (nx F e1 a9)) % 256 ∧ -128 ≤ (F (nx F e1 a9)) ∧ (F (nx F e1 a9)) ≤ 127 := fun q => hU (nx F e1 a9) (by omega) q
      have h_32 := hb_or (b := H) (e := e1) (r := (nx F e1 a9))
      have h_33 := hb_bd (b := H) (e := e1) (r := (nx F e1 a9)) (lo := -2147483648) (hi := 2147483647) h_30 (by decide)
      refine v_cv c_161_8 km_8_114 rfl rfl (Nat.le_of_ble_eq_true rfl) ⟨⟨rfl, rfl⟩, Nat.le_of_ble_eq_true rfl, rfl⟩ (Nat.le_of_ble_eq_true rfl) (Nat.le_of_ble_eq_true rfl) (f_154 (e1 := e1) (a9 := a9) (B := H) (r8 := (nx F e1 a9)) (r := (hb H e1 (nx F e1 a9))) hI ((hr_e1)) (((hro_hRt.2.2.1).trans ((hg_a9)))) (fun j => hH j) ((nx_tr hU ((rg_eq hg_a9 h_3).1) ((rg_eq hg_e1 h_1).2)).trans (rfl)) rfl (fun c_34 hI_35 hF_36 h_37 => (bk_inl (q_iload_n c_161_11 rfl (v_ic_eq_f (t := 24) c_161_12 rfl ⟨by first | exact q_39c80169a h_14 h_32 | omega, ⟨h_33.1, h_33.2⟩, by decide, by decide⟩ (q_aload_n c_161_15 rfl (q_iconst c_161_16 (q_aload_n c_161_17 rfl (v_gi (z := 4) (v := (nx F e1 a9)) c_161_18 kf_8_108 rfl (Nat.le_of_ble_eq_true rfl) rfl rfl (h_37) ?_)))))))))
      refine v_cv c_161_21 km_8_138 rfl rfl (Nat.le_of_ble_eq_true rfl) ⟨⟨rfl, rfl⟩, Nat.le_of_ble_eq_true rfl, rfl⟩ (Nat.le_of_ble_eq_true rfl) (Nat.le_of_ble_eq_true rfl) (q_aload_n c_153_0 rfl ?_)
      have kn_38 : Hid (c_34 41 5 = (-1)) := (hF_36 41 5 (fun h => absurd h.2 (ni rfl))).trans hro_hRt.2.1
      refine v_gi (z := 5) (v := (-1)) c_153_1 kf_8_102 rfl (Nat.le_of_ble_eq_true rfl) rfl rfl (hid kn_38) (q_iconst c_153_4 (v_ic_eq_t (t := 9) c_153_5 rfl (by decide) (q_aload_n c_153_9 rfl (q_iload_n c_153_10 rfl (v_pi (z := 5) c_153_11 kf_8_102 rfl (Nat.le_of_ble_eq_true rfl) rfl rfl rfl (by decide) (q_aload_n c_153_14 rfl (q_iload_n c_153_15 rfl ?_)))))))
      refine v_pi (z := 6) c_153_16 kf_8_105 rfl (Nat.le_of_ble_eq_true rfl) rfl rfl rfl (by decide) (q_vret rfl rfl (bk_inl (q_aload_n c_161_24 rfl (v_cv c_161_25 km_8_131 rfl rfl (Nat.le_of_ble_eq_true rfl) ⟨⟨rfl, rfl⟩, Nat.le_of_ble_eq_true rfl, rfl⟩ (Nat.le_of_ble_eq_true rfl) (Nat.le_of_ble_eq_true rfl) (q_aload_n c_152_0 rfl (v_gi (z := 5) (v := (nx F e1 a9)) c_152_1 kf_8_102 rfl (Nat.le_of_ble_eq_true rfl) rfl rfl ((up_n (by decide)).trans (up_e rfl)) (q_iconst c_152_4 ?_)))))))
      refine v_ic_ne_t (t := 12) c_152_5 rfl ⟨by first | exact q_90762221b h_21 h_22 | omega, ⟨by first | exact q_17990f574 h_21 h_22 | omega, by first | exact q_757c304f4 h_21 h_22 | omega⟩, by decide, by decide⟩ (q_iconst c_152_12 (v_zret c_152_13 rfl (by decide) (bk_inl (v_if_eq_t (t := 41) c_161_28 rfl (by decide) (q_vret rfl rfl ?_)))))
      have hI_39 := iw_41_5 (v := (nx F e1 a9)) hI_35 ⟨by first | exact q_5ce231cbd h_21 h_22 | omega, by first | exact q_6094bb0fa h_23 h_24 | omega⟩
      have hI_40 := iw_41_6 (v := 1) hI_39 ⟨by decide, by decide⟩
      have h_41 : (up (up c_34 41 5 (nx F e1 a9)) 41 6 1) 41 5 = (nx F e1 a9) := ((up_n (by decide)).trans (up_e rfl))
      have h_42 : (up (up c_34 41 5 (nx F e1 a9)) 41 6 1) 41 4 = (nx F e1 a9) := ((up_n (by decide)).trans ((up_n (by decide)).trans (h_37)))
      have h_43 : (up (up c_34 41 5 (nx F e1 a9)) 41 6 1) 41 6 = 1 := (up_e rfl)
      exact K (up (up c_34 41 5 (nx F e1 a9)) 41 6 1)  hI_40 (fun a j hm => (up_b (Decidable.or_iff_not_imp_left.mpr (fun h1 h2 => hm (Or.inr (Or.inr ⟨Decidable.not_not.mp h1, h2⟩))))).trans ((up_b (Decidable.or_iff_not_imp_left.mpr (fun h1 h2 => hm (Or.inr (Or.inl ⟨Decidable.not_not.mp h1, h2⟩))))).trans (hF_36 a j (fun h => hm (Or.inl h))))) (rt_i2 ⟨⟨by first | exact q_5935f82f1 h_20 | omega, by first | exact q_63461c6bf h_20 | omega⟩, by first | exact q_88dc5fb99 h_24 | omega, by first | exact q_a060fbdd4 h_21 h_22 h_24 | omega, by first | exact q_69efb464e h_20 | omega⟩) (Or.inr (Or.inl (by first | exact q_e2d2b4ae2 h_20 | omega))) (Or.inr (Or.inl (by first | exact q_e2d2b4ae2 h_20 | omega)))
    · refine v_ic_ge_f (t := 55) c_4_20 rfl ⟨by first | exact q_a3bce4abb h_3 h_6 hg_a9 | omega, (Int.not_le.mp h_14), (Int.le_trans (rg_eq hg_e1 h_1).2 (by decide))⟩ (q_aload_n c_4_23 rfl (v_gr (t := 2) c_4_24 kf_5_9 rfl (Nat.le_of_ble_eq_true rfl) rfl (q_iload_n c_4_27 rfl ?_)))
      have kn_44 : Hid (c_9 2 (nx F e1 a9) = (F (nx F e1 a9))) := (hF_11 2 (nx F e1 a9) (fun h => absurd h.1 (nn rfl))).trans (hF (nx F e1 a9))
      refine v_ba (v := (F (nx F e1 a9))) c_4_28 rfl (by decide) (by decide) ⟨by first | exact q_828522d69 h_3 h_6 hg_a9 | omega, by first | exact q_b867e77c7 h_14 h_2 hr_e1 | omega⟩ (hid kn_44) (q_aload_n c_4_29 rfl (q_iload_n c_4_30 rfl (v_sch 59 c_4_31 rfl (by omega) (Nat.le_of_ble_eq_true rfl) (by decide) (by decide) (by decide) ?_)))
      by_cases h_45 : (F (nx F e1 a9)) ≠ 59
      · refine v_ic_ne_t (t := 49) c_4_34 rfl ⟨h_45, ⟨h_7.1, h_7.2⟩, by decide, by decide⟩ (v_iinc (v := 1) c_4_49 rfl (Nat.le_of_ble_eq_true rfl) (by decide) (q_goto (t := 7) c_4_52 rfl (q_iload_n c_4_7 rfl (q_aload_n c_4_8 rfl (v_sln 1 c_4_9 rfl (by omega) (Nat.le_of_ble_eq_true rfl) (by decide) (by decide) (v_ic_ge_t (t := 55) c_4_12 rfl (by decide) (q_iconst c_4_55 ?_)))))))
        refine q_iret c_4_56 rfl (bk_inl (q_iconst c_11_12 (v_ic_ne_f (t := 25) c_11_13 rfl (by decide) (q_aload_n c_11_16 rfl (q_iconst c_11_17 (q_aload_n c_11_18 rfl (v_gi (z := 2) (v := (nx F e1 a9)) c_11_19 kf_5_35 rfl (Nat.le_of_ble_eq_true rfl) rfl rfl (hz_12) ?_)))))))
        refine v_cv c_11_22 km_5_52 rfl rfl (Nat.le_of_ble_eq_true rfl) ⟨⟨rfl, rfl⟩, Nat.le_of_ble_eq_true rfl, rfl⟩ (Nat.le_of_ble_eq_true rfl) (Nat.le_of_ble_eq_true rfl) (q_aload_n c_7_0 rfl ?_)
        have kn_46 : Hid (c_9 1 4 = 0) := (hF_11 1 4 (fun h => absurd h.2 (ni rfl))).trans (hs9)
        refine v_gi (z := 4) (v := 0) c_7_1 kf_5_38 rfl (Nat.le_of_ble_eq_true rfl) rfl rfl (hid kn_46) (v_if_ne_f (t := 17) c_7_4 rfl (by decide) (q_aload_n c_7_7 rfl (q_iload_n c_7_8 rfl (v_pi (z := 4) c_7_9 kf_5_38 rfl (Nat.le_of_ble_eq_true rfl) rfl rfl rfl (by decide) (q_aload_n c_7_12 rfl (q_iload_n c_7_13 rfl (v_pi (z := 5) c_7_14 kf_5_15 rfl (Nat.le_of_ble_eq_true rfl) rfl rfl rfl (by decide) ?_)))))))
        refine q_vret rfl rfl (bk_inl (q_vret rfl rfl ?_))
        have hI_47 := iw_1_4 (v := 1) hI_10 ⟨by decide, by decide⟩
        have hI_48 := iw_1_5 (v := (nx F e1 a9)) hI_47 ⟨by first | exact q_e3021f629 h_3 h_6 hg_a9 | omega, by first | exact q_15401fa7c h_14 h_2 hr_e1 | omega⟩
        intro hE_49
        have hW : Wd P Q P P (up (up c_9 1 4 1) 1 5 (nx F e1 a9)) = Wd P Q P P m9 := (Prod.mk.inj (Prod.mk.inj hE_49).2).1
        have h_50 := ir_1_4 hJ9
        have h_51 : m9 1 4 = 1 := wd_fv (z := 4) 4 rfl hW rfl rfl rfl rfl (by decide) ((up_n (by decide)).trans (up_e rfl)) ⟨by decide, by decide⟩ ⟨(Int.le_trans (by decide) h_50.1), (Int.le_trans h_50.2 (by decide))⟩
        have h_52 := ir_1_2 hJ9
        have h_53 : m9 1 2 = (nx F e1 a9) := wd_fv (z := 2) 2 rfl hW rfl rfl rfl rfl (by decide) ((up_n (by decide)).trans ((up_n (by decide)).trans (hz_12))) ⟨by first | exact q_a3bce4abb h_3 h_6 hg_a9 | omega, by first | exact q_2e6ee4ea6 h_14 h_2 hr_e1 | omega⟩ ⟨(Int.le_trans (by decide) h_52.1), (Int.le_trans h_52.2 (by decide))⟩
        have h_54 := ir_1_5 hJ9
        have h_55 : m9 1 5 = (nx F e1 a9) := wd_fv (z := 5) 5 rfl hW rfl rfl rfl rfl (by decide) (up_e rfl) ⟨by first | exact q_17990f574 h_52 h_53 | omega, by first | exact q_757c304f4 h_52 h_53 | omega⟩ ⟨(Int.le_trans (by decide) h_54.1), (Int.le_trans h_54.2 (by decide))⟩
        refine q_aload_n c_161_0 rfl (v_cv c_161_1 km_8_131 rfl rfl (Nat.le_of_ble_eq_true rfl) ⟨⟨rfl, rfl⟩, Nat.le_of_ble_eq_true rfl, rfl⟩ (Nat.le_of_ble_eq_true rfl) (Nat.le_of_ble_eq_true rfl) (q_aload_n c_152_0 rfl ?_))
        have h_56 := ir_41_5 hI
        have h_57 := ir_1_5 hJ
        have h_58 := ir_41_4 hI
        have h_59 := ir_41_6 hI
        have h_60 := rt_ok hRt (by first | (clear h_1 hg_e1 h_2 hr_e1 h_3 hg_a9 hg_f0 h_5 h_6 h_7 h_14 h_50 h_51 h_52 h_53 h_54 h_55 h_56 h_57 h_58 h_59 h_8 h_45; omega) | omega)
        have hro_hRt := rt_ok hRt (by first | assumption | omega)
        refine v_gi (z := 5) (v := (-1)) c_152_1 kf_8_102 rfl (Nat.le_of_ble_eq_true rfl) rfl rfl hro_hRt.2.1 (q_iconst c_152_4 (v_ic_ne_f (t := 12) c_152_5 rfl (by decide) (q_iconst c_152_8 (q_goto (t := 13) c_152_9 rfl (v_zret c_152_13 rfl (by decide) (bk_inl (v_if_eq_f (t := 24) c_161_4 rfl (by decide) ?_)))))))
        refine q_aload_n c_161_7 rfl ?_
        have h_61 : -2147483648 ≤ (H (nx F e1 a9)) ∧ (H (nx F e1 a9)) ≤ 2147483647 := by rw [← hH (nx F e1 a9)]; exact ir_43 hI (nx F e1 a9)
        have h_62 := hU (nx F e1 a9) (by first | exact q_4ad75e8a2 h_52 h_53 | omega) (by first | exact q_b867e77c7 h_14 h_2 hr_e1 | omega)
        have h_63 := hb_or (b := H) (e := e1) (r := (nx F e1 a9))
        have h_64 := hb_bd (b := H) (e := e1) (r := (nx F e1 a9)) (lo := -2147483648) (hi := 2147483647) h_61 (by decide)
        refine v_cv c_161_8 km_8_114 rfl rfl (Nat.le_of_ble_eq_true rfl) ⟨⟨rfl, rfl⟩, Nat.le_of_ble_eq_true rfl, rfl⟩ (Nat.le_of_ble_eq_true rfl) (Nat.le_of_ble_eq_true rfl) (f_154 (e1 := e1) (a9 := a9) (B := H) (r8 := (nx F e1 a9)) (r := (hb H e1 (nx F e1 a9))) hI ((hr_e1)) (((hro_hRt.2.2.1).trans ((hg_a9)))) (fun j => hH j) ((nx_tr hU ((rg_eq hg_a9 h_3).1) ((rg_eq hg_e1 h_1).2)).trans (rfl)) rfl (fun c_65 hI_66 hF_67 h_68 => (bk_inl (q_iload_n c_161_11 rfl (v_ic_eq_f (t := 24) c_161_12 rfl ⟨by first | (clear h_1 hg_e1 h_2 hr_e1 h_3 hg_a9 h_4 hg_f0 h_5 h_6 h_7 h_14 h_50 h_51 h_52 h_53 h_54 h_55 h_56 h_57 h_58 h_59 h_60 h_61 h_64 h_8; omega) | omega, ⟨h_64.1, h_64.2⟩, by decide, by decide⟩ (q_aload_n c_161_15 rfl (q_iconst c_161_16 (q_aload_n c_161_17 rfl (v_gi (z := 4) (v := (nx F e1 a9)) c_161_18 kf_8_108 rfl (Nat.le_of_ble_eq_true rfl) rfl rfl (h_68) ?_)))))))))
        refine v_cv c_161_21 km_8_138 rfl rfl (Nat.le_of_ble_eq_true rfl) ⟨⟨rfl, rfl⟩, Nat.le_of_ble_eq_true rfl, rfl⟩ (Nat.le_of_ble_eq_true rfl) (Nat.le_of_ble_eq_true rfl) (q_aload_n c_153_0 rfl ?_)
        have kn_69 : Hid (c_65 41 5 = (-1)) := (hF_67 41 5 (fun h => absurd h.2 (ni rfl))).trans hro_hRt.2.1
        refine v_gi (z := 5) (v := (-1)) c_153_1 kf_8_102 rfl (Nat.le_of_ble_eq_true rfl) rfl rfl (hid kn_69) (q_iconst c_153_4 (v_ic_eq_t (t := 9) c_153_5 rfl (by decide) (q_aload_n c_153_9 rfl (q_iload_n c_153_10 rfl (v_pi (z := 5) c_153_11 kf_8_102 rfl (Nat.le_of_ble_eq_true rfl) rfl rfl rfl (by decide) (q_aload_n c_153_14 rfl (q_iload_n c_153_15 rfl ?_)))))))
        refine v_pi (z := 6) c_153_16 kf_8_105 rfl (Nat.le_of_ble_eq_true rfl) rfl rfl rfl (by decide) (q_vret rfl rfl (bk_inl (q_aload_n c_161_24 rfl (v_cv c_161_25 km_8_131 rfl rfl (Nat.le_of_ble_eq_true rfl) ⟨⟨rfl, rfl⟩, Nat.le_of_ble_eq_true rfl, rfl⟩ (Nat.le_of_ble_eq_true rfl) (Nat.le_of_ble_eq_true rfl) (q_aload_n c_152_0 rfl (v_gi (z := 5) (v := (nx F e1 a9)) c_152_1 kf_8_102 rfl (Nat.le_of_ble_eq_true rfl) rfl rfl ((up_n (by decide)).trans (up_e rfl)) (q_iconst c_152_4 ?_)))))))
        refine v_ic_ne_t (t := 12) c_152_5 rfl ⟨by first | exact q_90762221b h_52 h_53 | omega, ⟨by first | exact q_17990f574 h_52 h_53 | omega, by first | exact q_783468581 h_54 h_55 | omega⟩, by decide, by decide⟩ (q_iconst c_152_12 (v_zret c_152_13 rfl (by decide) (bk_inl (v_if_eq_t (t := 41) c_161_28 rfl (by decide) (q_vret rfl rfl ?_)))))
        have hI_70 := iw_41_5 (v := (nx F e1 a9)) hI_66 ⟨by first | exact q_5ce231cbd h_52 h_53 | omega, by first | exact q_deaeab841 h_52 h_53 | omega⟩
        have hI_71 := iw_41_6 (v := 1) hI_70 ⟨by decide, by decide⟩
        have h_72 : (up (up c_65 41 5 (nx F e1 a9)) 41 6 1) 41 5 = (nx F e1 a9) := ((up_n (by decide)).trans (up_e rfl))
        have h_73 : (up (up c_65 41 5 (nx F e1 a9)) 41 6 1) 41 4 = (nx F e1 a9) := ((up_n (by decide)).trans ((up_n (by decide)).trans (h_68)))
        have h_74 : (up (up c_65 41 5 (nx F e1 a9)) 41 6 1) 41 6 = 1 := (up_e rfl)
        exact K (up (up c_65 41 5 (nx F e1 a9)) 41 6 1)  hI_71 (fun a j hm => (up_b (Decidable.or_iff_not_imp_left.mpr (fun h1 h2 => hm (Or.inr (Or.inr ⟨Decidable.not_not.mp h1, h2⟩))))).trans ((up_b (Decidable.or_iff_not_imp_left.mpr (fun h1 h2 => hm (Or.inr (Or.inl ⟨Decidable.not_not.mp h1, h2⟩))))).trans (hF_67 a j (fun h => hm (Or.inl h))))) (rt_i2 ⟨⟨by first | exact q_5935f82f1 h_51 | omega, by first | exact q_63461c6bf h_51 | omega⟩, by first | exact q_88dc5fb99 h_55 | omega, by first | exact q_a060fbdd4 h_52 h_53 h_55 | omega, by first | exact q_69efb464e h_51 | omega⟩) (Or.inr (Or.inl (by first | exact q_e2d2b4ae2 h_51 | omega))) (Or.inr (Or.inl (by first | exact q_e2d2b4ae2 h_51 | omega)))
      · refine v_ic_ne_f (t := 49) c_4_34 rfl (Decidable.not_not.mp h_45) (q_aload_n c_4_37 rfl (q_dup c_4_38 rfl (v_gi (z := 2) (v := (nx F e1 a9)) c_4_39 kf_5_35 rfl (Nat.le_of_ble_eq_true rfl) rfl rfl (hz_12) (q_iconst c_4_42 (v_iadd (v := (nx F e1 a9) + 1) c_4_43 rfl (v_pi (z := 2) c_4_44 kf_5_35 rfl (Nat.le_of_ble_eq_true rfl) rfl rfl rfl (by decide) (q_iload_n c_4_47 rfl ?_)))))))
        refine q_iret c_4_48 rfl (bk_inl (q_iconst c_11_12 (v_ic_ne_t (t := 25) c_11_13 rfl (by decide) (q_vret rfl rfl ?_))))
        have hI_75 := iw_1_2 (v := (nx F e1 a9) + 1) hI_10 ⟨by first | exact q_e260493d5 h_3 h_6 hg_a9 | omega, by first | exact q_6ea34058e h_14 h_2 hr_e1 | omega⟩
        intro hE_76
        have hW : Wd P Q P P (up c_9 1 2 ((nx F e1 a9) + 1)) = Wd P Q P P m9 := (Prod.mk.inj (Prod.mk.inj hE_76).2).1
        have kn_77 : Hid (c_9 1 4 = 0) := (hF_11 1 4 (fun h => absurd h.2 (ni rfl))).trans (hs9)
        have h_78 := ir_1_4 hJ9
        have h_79 : m9 1 4 = 0 := wd_fv (z := 4) 4 rfl hW rfl rfl rfl rfl (by decide) ((up_n (by decide)).trans (hid kn_77)) ⟨by decide, by decide⟩ ⟨(Int.le_trans (by decide) h_78.1), (Int.le_trans h_78.2 (by decide))⟩
        have h_80 := ir_1_2 hJ9
        have h_81 : m9 1 2 = (nx F e1 a9) + 1 := wd_fv (z := 2) 2 rfl hW rfl rfl rfl rfl (by decide) (up_e rfl) ⟨by first | exact q_86633cc1b h_3 h_6 hg_a9 | omega, by first | exact q_1da59465c h_14 h_2 hr_e1 | omega⟩ ⟨(Int.le_trans (by decide) h_80.1), (Int.le_trans h_80.2 (by decide))⟩
        have kn_82 : Hid (c_9 1 5 = (-1)) := (hF_11 1 5 (fun h => absurd h.2 (ni rfl))).trans (hs8)
        have h_83 := ir_1_5 hJ9
        have h_84 : m9 1 5 = (-1) := wd_fv (z := 5) 5 rfl hW rfl rfl rfl rfl (by decide) ((up_n (by decide)).trans (hid kn_82)) ⟨by decide, by decide⟩ ⟨(Int.le_trans (by decide) h_83.1), (Int.le_trans h_83.2 (by decide))⟩
        refine q_aload_n c_161_0 rfl (v_cv c_161_1 km_8_131 rfl rfl (Nat.le_of_ble_eq_true rfl) ⟨⟨rfl, rfl⟩, Nat.le_of_ble_eq_true rfl, rfl⟩ (Nat.le_of_ble_eq_true rfl) (Nat.le_of_ble_eq_true rfl) (q_aload_n c_152_0 rfl ?_))
        have h_85 := ir_41_5 hI
        have h_86 := ir_1_5 hJ
        have h_87 := ir_41_4 hI
        have h_88 := ir_41_6 hI
        have h_89 := rt_ok hRt (by first | (clear h_1 hg_e1 h_2 hr_e1 h_3 hg_a9 hg_f0 h_5 h_6 h_7 h_14 h_45 h_78 h_79 h_80 h_81 h_83 h_84 h_85 h_86 h_87 h_88 h_8; omega) | omega)
        have hro_hRt := rt_ok hRt (by first | assumption | omega)
        refine v_gi (z := 5) (v := (-1)) c_152_1 kf_8_102 rfl (Nat.le_of_ble_eq_true rfl) rfl rfl hro_hRt.2.1 (q_iconst c_152_4 (v_ic_ne_f (t := 12) c_152_5 rfl (by decide) (q_iconst c_152_8 (q_goto (t := 13) c_152_9 rfl (v_zret c_152_13 rfl (by decide) (bk_inl (v_if_eq_f (t := 24) c_161_4 rfl (by decide) ?_)))))))
        refine q_aload_n c_161_7 rfl ?_
        have h_90 : -2147483648 ≤ (H (nx F e1 a9)) ∧ (H (nx F e1 a9)) ≤ 2147483647 := by rw [← hH (nx F e1 a9)]; exact ir_43 hI (nx F e1 a9)
        have h_91 := hU (nx F e1 a9) (by first | exact q_828522d69 h_3 h_6 hg_a9 | omega) (by first | exact q_b03d63f6f h_80 h_81 | omega)
        have h_92 := hb_or (b := H) (e := e1) (r := (nx F e1 a9))
        have h_93 := hb_bd (b := H) (e := e1) (r := (nx F e1 a9)) (lo := -2147483648) (hi := 2147483647) h_90 (by decide)
        refine v_cv c_161_8 km_8_114 rfl rfl (Nat.le_of_ble_eq_true rfl) ⟨⟨rfl, rfl⟩, Nat.le_of_ble_eq_true rfl, rfl⟩ (Nat.le_of_ble_eq_true rfl) (Nat.le_of_ble_eq_true rfl) (f_154 (e1 := e1) (a9 := a9) (B := H) (r8 := (nx F e1 a9)) (r := (hb H e1 (nx F e1 a9))) hI ((hr_e1)) (((hro_hRt.2.2.1).trans ((hg_a9)))) (fun j => hH j) ((nx_tr hU ((rg_eq hg_a9 h_3).1) ((rg_eq hg_e1 h_1).2)).trans (rfl)) rfl (fun c_94 hI_95 hF_96 h_97 => (bk_inl (q_iload_n c_161_11 rfl (v_ic_eq_t (t := 24) c_161_12 rfl (by first | (clear h_1 hg_e1 h_2 hr_e1 h_3 hg_a9 h_4 hg_f0 h_5 h_6 h_7 h_78 h_79 h_80 h_81 h_83 h_84 h_85 h_86 h_87 h_88 h_89 h_90 h_93 h_8; omega) | omega) (q_aload_n c_161_24 rfl (v_cv c_161_25 km_8_131 rfl rfl (Nat.le_of_ble_eq_true rfl) ⟨⟨rfl, rfl⟩, Nat.le_of_ble_eq_true rfl, rfl⟩ (Nat.le_of_ble_eq_true rfl) (Nat.le_of_ble_eq_true rfl) (q_aload_n c_152_0 rfl ?_))))))))
        have kn_98 : Hid (c_94 41 5 = (-1)) := (hF_96 41 5 (fun h => absurd h.2 (ni rfl))).trans hro_hRt.2.1
        refine v_gi (z := 5) (v := (-1)) c_152_1 kf_8_102 rfl (Nat.le_of_ble_eq_true rfl) rfl rfl (hid kn_98) (q_iconst c_152_4 (v_ic_ne_f (t := 12) c_152_5 rfl (by decide) (q_iconst c_152_8 (q_goto (t := 13) c_152_9 rfl (v_zret c_152_13 rfl (by decide) (bk_inl (v_if_eq_f (t := 41) c_161_28 rfl (by decide) ?_)))))))
        refine q_aload_n c_161_31 rfl (q_dup c_161_32 rfl (v_gi (z := 4) (v := (nx F e1 a9)) c_161_33 kf_8_108 rfl (Nat.le_of_ble_eq_true rfl) rfl rfl (h_97) (q_iconst c_161_36 (v_iadd (v := (nx F e1 a9) + 1) c_161_37 rfl (v_pi (z := 4) c_161_38 kf_8_108 rfl (Nat.le_of_ble_eq_true rfl) rfl rfl rfl (by decide) (q_vret rfl rfl ?_))))))
        have hI_99 := iw_41_4 (v := (nx F e1 a9) + 1) hI_95 ⟨by first | exact q_e260493d5 h_3 h_6 hg_a9 | omega, by first | exact q_369ecf7f1 h_80 h_81 | omega⟩
        have h_100 : (up c_94 41 4 ((nx F e1 a9) + 1)) 41 5 = (-1) := ((up_n (by decide)).trans (hid kn_98))
        have h_101 : (up c_94 41 4 ((nx F e1 a9) + 1)) 41 4 = (nx F e1 a9) + 1 := (up_e rfl)
        have kn_102 : Hid (c_94 41 6 = c 41 6) := hF_96 41 6 (fun h => absurd h.2 (ni rfl))
        have h_103 : (up c_94 41 4 ((nx F e1 a9) + 1)) 41 6 = c 41 6 := ((up_n (by decide)).trans (hid kn_102))
        exact K (up c_94 41 4 ((nx F e1 a9) + 1))  hI_99 (fun a j hm => (up_b (Decidable.or_iff_not_imp_left.mpr (fun h1 h2 => hm (Or.inl ⟨Decidable.not_not.mp h1, h2⟩)))).trans (hF_96 a j (fun h => hm (Or.inl h)))) (rt_i1 ⟨by first | exact q_f6b658f58 h_78 h_79 | omega, by first | assumption | omega, by first | exact q_58a890de0 h_81 | omega, by first | exact q_f39655ca6 h_83 h_84 | omega⟩) (Or.inr (Or.inr ⟨by first | exact q_1caa53e22 h_6 h_81 | omega, by first | exact q_639ed28ca h_14 h_81 | omega⟩)) (Or.inr (Or.inr (by first | (clear h_1 hg_e1 h_2 hr_e1 h_3 hg_a9 h_5 h_6 h_7 h_14 h_45 h_78 h_79 h_80 h_81 h_83 h_84 h_85 h_86 h_87 h_88 h_89 h_90 h_91 h_93 h_8 h_92; omega) | omega)))
  · skip
    refine q_aload_n c_11_0 rfl (v_cv c_11_1 km_5_45 rfl rfl (Nat.le_of_ble_eq_true rfl) ⟨⟨rfl, rfl⟩, Nat.le_of_ble_eq_true rfl, rfl⟩ (Nat.le_of_ble_eq_true rfl) (Nat.le_of_ble_eq_true rfl) (q_aload_n c_2_0 rfl (v_gi (z := 4) (v := f0) c_2_1 kf_5_38 rfl (Nat.le_of_ble_eq_true rfl) rfl rfl (hg_f0) (v_if_ne_t (t := 11) c_2_4 rfl ⟨by omega, ⟨(Int.le_trans (by decide) (rg_eq hg_f0 h_4).1), (Int.le_trans (rg_eq hg_f0 h_4).2 (by decide))⟩, by decide, by decide⟩ (q_iconst c_2_11 (v_zret c_2_12 rfl (by decide) (bk_inl ?_)))))))
    refine v_if_eq_t (t := 25) c_11_4 rfl (by decide) (q_vret rfl rfl ?_)
    intro hE_104
    have hW : Wd P Q P P m = Wd P Q P P m9 := (Prod.mk.inj (Prod.mk.inj hE_104).2).1
    have h_105 := ir_1_4 hJ9
    have h_106 : m9 1 4 = f0 := wd_fv (z := 4) 4 rfl hW rfl rfl rfl rfl (by decide) (hg_f0) ⟨(Int.le_trans (by decide) (rg_eq hg_f0 h_4).1), (Int.le_trans (rg_eq hg_f0 h_4).2 (by decide))⟩ ⟨(Int.le_trans (by decide) h_105.1), (Int.le_trans h_105.2 (by decide))⟩
    have h_107 := ir_1_2 hJ9
    have h_108 : m9 1 2 = a9 := wd_fv (z := 2) 2 rfl hW rfl rfl rfl rfl (by decide) (hg_a9) ⟨(Int.le_trans (by decide) (rg_eq hg_a9 h_3).1), (Int.le_trans (rg_eq hg_a9 h_3).2 (by decide))⟩ ⟨(Int.le_trans (by decide) h_107.1), (Int.le_trans h_107.2 (by decide))⟩
    have h_109 := ir_1_5 hJ
    have h_110 := ir_1_5 hJ9
    have h_111 : m9 1 5 = m 1 5 := wd_fv (z := 5) 5 rfl hW rfl rfl rfl rfl (by decide) rfl ⟨(Int.le_trans (by decide) h_109.1), (Int.le_trans h_109.2 (by decide))⟩ ⟨(Int.le_trans (by decide) h_110.1), (Int.le_trans h_110.2 (by decide))⟩
    refine q_aload_n c_161_0 rfl (v_cv c_161_1 km_8_131 rfl rfl (Nat.le_of_ble_eq_true rfl) ⟨⟨rfl, rfl⟩, Nat.le_of_ble_eq_true rfl, rfl⟩ (Nat.le_of_ble_eq_true rfl) (Nat.le_of_ble_eq_true rfl) (q_aload_n c_152_0 rfl ?_))
    have h_112 := ir_41_5 hI
    have h_113 := ir_41_4 hI
    have h_114 := ir_41_6 hI
    have h_115 := rt_bad hRt (by first | (clear h_1 hg_e1 h_2 hr_e1 h_3 hg_a9 h_4 hg_f0 h_105 h_106 h_107 h_108 h_109 h_110 h_111 h_112 h_113 h_114; omega) | omega)
    have hrb_hRt := rt_bad hRt (by first | exact q_5e082ea92 h_115 hg_f0 | omega)
    refine v_gi (z := 5) (v := m 1 5) c_152_1 kf_8_102 rfl (Nat.le_of_ble_eq_true rfl) rfl rfl hrb_hRt.2.1 (q_iconst c_152_4 (v_ic_ne_t (t := 12) c_152_5 rfl ⟨by first | exact q_0f78863d3 h_115 | omega, ⟨(Int.le_trans (by decide) h_109.1), (Int.le_trans h_109.2 (by decide))⟩, by decide, by decide⟩ (q_iconst c_152_12 (v_zret c_152_13 rfl (by decide) (bk_inl (v_if_eq_t (t := 24) c_161_4 rfl (by decide) (q_aload_n c_161_24 rfl ?_)))))))
    refine v_cv c_161_25 km_8_131 rfl rfl (Nat.le_of_ble_eq_true rfl) ⟨⟨rfl, rfl⟩, Nat.le_of_ble_eq_true rfl, rfl⟩ (Nat.le_of_ble_eq_true rfl) (Nat.le_of_ble_eq_true rfl) (q_aload_n c_152_0 rfl (v_gi (z := 5) (v := m 1 5) c_152_1 kf_8_102 rfl (Nat.le_of_ble_eq_true rfl) rfl rfl hrb_hRt.2.1 (q_iconst c_152_4 (v_ic_ne_t (t := 12) c_152_5 rfl ⟨by first | exact q_0f78863d3 h_115 | omega, ⟨(Int.le_trans (by decide) h_109.1), (Int.le_trans h_109.2 (by decide))⟩, by decide, by decide⟩ (q_iconst c_152_12 (v_zret c_152_13 rfl (by decide) (bk_inl ?_)))))))
    refine v_if_eq_t (t := 41) c_161_28 rfl (by decide) (q_vret rfl rfl ?_)
    have h_116 : c 41 5 = m 1 5 := hrb_hRt.2.1
    have h_117 : c 41 6 = f0 := ((hrb_hRt.2.2.2).trans ((hg_f0)))
    exact K c  hI (fun a j hm => rfl) (rt_i2 ⟨⟨by first | exact q_3b8ab523e h_106 h_115 hg_f0 | omega, by first | exact q_c99d6ea93 h_105 | omega⟩, by first | exact q_88dc5fb99 h_111 | omega, by first | exact q_cb71117a2 h_111 h_115 | omega, by first | exact q_88dc5fb99 h_106 | omega⟩) (Or.inr (Or.inl (by first | exact q_2ce17e943 h_106 h_115 hg_f0 | omega))) (Or.inr (Or.inl (by first | exact q_2ce17e943 h_106 h_115 hg_f0 | omega)))

set_option maxRecDepth 100000 in
set_option maxHeartbeats 4000000 in
theorem L_11x {sc : List Int32} {e eg : Int} {d dh u ug P Q P2 Q2 : Nat} {c m m9 : ME} {e1 f0 g0 p0 b0 k0 : Int} {F H : Int → Int} {Z : AR → Prop} (hI : Iv u e P2 Q2 c) (hJ : Iv ug eg P Q m) (hJ9 : Iv ug eg P Q m9) (hq0 : (f0 ≥ 1 ∧ f0 ≤ 3 ∧ b0 = g0 ∧ g0 ≥ 0 ∧ k0 = f0) ∨ (f0 = 0 ∧ g0 = (-1) ∧ b0 = p0 ∧ p0 = e1 ∧ k0 = 1)) (hg_e1 : m 1 1 = e1) (hr_e1 : c 41 3 = e1) (hg_f0 : m 1 4 = f0) (hg_g0 : m 1 5 = g0) (hg_p0 : m 1 2 = p0) (hr_b0 : c 41 5 = b0) (hr_k0 : c 41 6 = k0) (hF : ∀ j : Int, m 2 j = F j) (hH : ∀ j : Int, c 43 j = H j) (hU : Ub F H) (hG : Wp sc (dh + 14) 11 0 [(0, .ref 1), (1, .ref (a_SB + 12))] [] (Wd P Q P P m) 0 0 (fun q => q = (.inl (none), Wd P Q P P m9, 0, 0))) (K : ∀ (c2 : ME), Iv u e P2 Q2 c2 → (∀ (a : Nat) (j : Int), ¬ ((a = 41 ∧ j = 4) ∨ (a = 41 ∧ j = 5) ∨ (a = 41 ∧ j = 6)) → c2 a j = c a j) → (Rt m9 c2) → ((m9 1 4 < 0) ∨ (m9 1 4 > 0)) → Z (.inl (none), Wd P2 Q2 P2 P2 c2, 0, 0)) : Wp sc (d + 14) 161 0 [(0, .ref 41), (1, vi 93)] [] (Wd P2 Q2 P2 P2 c) 0 0 Z := by
  have hP := iv_P hJ
  have hQ := iv_Q hJ
  have h_1 := ir_1_1 hJ
  have h_2 := ir_41_3 hI
  have h_3 := ir_1_4 hJ
  have h_4 := ir_1_5 hJ
  have h_5 := ir_1_2 hJ
  have h_6 := ir_41_5 hI
  have h_7 := ir_41_6 hI
  refine gh hG (q_aload_n c_11_0 rfl (v_cv c_11_1 km_5_45 rfl rfl (Nat.le_of_ble_eq_true rfl) ⟨⟨rfl, rfl⟩, Nat.le_of_ble_eq_true rfl, rfl⟩ (Nat.le_of_ble_eq_true rfl) (Nat.le_of_ble_eq_true rfl) (q_aload_n c_2_0 rfl (v_gi (z := 4) (v := f0) c_2_1 kf_5_38 rfl (Nat.le_of_ble_eq_true rfl) rfl rfl (hg_f0) ?_))))
  by_cases h_8 : f0 ≠ 0
  · refine v_if_ne_t (t := 11) c_2_4 rfl ⟨h_8, ⟨(Int.le_trans (by decide) (rg_eq hg_f0 h_3).1), (Int.le_trans (rg_eq hg_f0 h_3).2 (by decide))⟩, by decide, by decide⟩ (q_iconst c_2_11 (v_zret c_2_12 rfl (by decide) (bk_inl (v_if_eq_t (t := 25) c_11_4 rfl (by decide) (q_vret rfl rfl ?_)))))
    intro hE_9
    have hW : Wd P Q P P m = Wd P Q P P m9 := (Prod.mk.inj (Prod.mk.inj hE_9).2).1
    have h_10 := ir_1_4 hJ9
    have h_11 : m9 1 4 = f0 := wd_fv (z := 4) 4 rfl hW rfl rfl rfl rfl (by decide) (hg_f0) ⟨(Int.le_trans (by decide) (rg_eq hg_f0 h_3).1), (Int.le_trans (rg_eq hg_f0 h_3).2 (by decide))⟩ ⟨(Int.le_trans (by decide) h_10.1), (Int.le_trans h_10.2 (by decide))⟩
    have h_12 := ir_1_2 hJ9
    have h_13 : m9 1 2 = p0 := wd_fv (z := 2) 2 rfl hW rfl rfl rfl rfl (by decide) (hg_p0) ⟨(Int.le_trans (by decide) (rg_eq hg_p0 h_5).1), (Int.le_trans (rg_eq hg_p0 h_5).2 (by decide))⟩ ⟨(Int.le_trans (by decide) h_12.1), (Int.le_trans h_12.2 (by decide))⟩
    have h_14 := ir_1_5 hJ9
    have h_15 : m9 1 5 = g0 := wd_fv (z := 5) 5 rfl hW rfl rfl rfl rfl (by decide) (hg_g0) ⟨(Int.le_trans (by decide) (rg_eq hg_g0 h_4).1), (Int.le_trans (rg_eq hg_g0 h_4).2 (by decide))⟩ ⟨(Int.le_trans (by decide) h_14.1), (Int.le_trans h_14.2 (by decide))⟩
    refine q_aload_n c_161_0 rfl (v_cv c_161_1 km_8_131 rfl rfl (Nat.le_of_ble_eq_true rfl) ⟨⟨rfl, rfl⟩, Nat.le_of_ble_eq_true rfl, rfl⟩ (Nat.le_of_ble_eq_true rfl) (Nat.le_of_ble_eq_true rfl) (q_aload_n c_152_0 rfl (v_gi (z := 5) (v := b0) c_152_1 kf_8_102 rfl (Nat.le_of_ble_eq_true rfl) rfl rfl (hr_b0) (q_iconst c_152_4 (v_ic_ne_t (t := 12) c_152_5 rfl ⟨by first | exact q_5146b7f54 h_5 hg_p0 hq0 | omega, ⟨(Int.le_trans (by decide) (rg_eq hr_b0 h_6).1), (Int.le_trans (rg_eq hr_b0 h_6).2 (by decide))⟩, by decide, by decide⟩ (q_iconst c_152_12 (v_zret c_152_13 rfl (by decide) ?_)))))))
    refine bk_inl (v_if_eq_t (t := 24) c_161_4 rfl (by decide) (q_aload_n c_161_24 rfl (v_cv c_161_25 km_8_131 rfl rfl (Nat.le_of_ble_eq_true rfl) ⟨⟨rfl, rfl⟩, Nat.le_of_ble_eq_true rfl, rfl⟩ (Nat.le_of_ble_eq_true rfl) (Nat.le_of_ble_eq_true rfl) (q_aload_n c_152_0 rfl (v_gi (z := 5) (v := b0) c_152_1 kf_8_102 rfl (Nat.le_of_ble_eq_true rfl) rfl rfl (hr_b0) (q_iconst c_152_4 (v_ic_ne_t (t := 12) c_152_5 rfl ⟨by first | exact q_5146b7f54 h_5 hg_p0 hq0 | omega, ⟨(Int.le_trans (by decide) (rg_eq hr_b0 h_6).1), (Int.le_trans (rg_eq hr_b0 h_6).2 (by decide))⟩, by decide, by decide⟩ ?_)))))))
    refine q_iconst c_152_12 (v_zret c_152_13 rfl (by decide) (bk_inl (v_if_eq_t (t := 41) c_161_28 rfl (by decide) (q_vret rfl rfl ?_))))
    have h_16 : c 41 5 = b0 := (hr_b0)
    have h_17 := ir_41_4 hI
    have h_18 : c 41 6 = k0 := (hr_k0)
    exact K c  hI (fun a j hm => rfl) (rt_i2 ⟨⟨by first | exact q_dcb0bb3ef h_10 h_11 h_8 | omega, by first | exact q_c99d6ea93 h_10 | omega⟩, by first | exact q_250bde164 h_12 h_13 h_15 h_8 hq0 | omega, by first | exact q_32b0dfe7c h_15 h_8 hq0 | omega, by first | exact q_053640e36 h_11 h_8 hq0 | omega⟩) (Or.inr (by first | exact q_499a13b0c h_10 h_11 h_8 | omega))
  · refine v_if_ne_f (t := 11) c_2_4 rfl (Decidable.not_not.mp h_8) (q_iconst c_2_7 (q_goto (t := 12) c_2_8 rfl (v_zret c_2_12 rfl (by decide) (bk_inl (v_if_eq_f (t := 25) c_11_4 rfl (by decide) (q_aload_n c_11_7 rfl (q_aload_n c_11_8 rfl ?_)))))))
    refine v_cv c_11_9 km_5_65 rfl rfl (Nat.le_of_ble_eq_true rfl) ⟨⟨rfl, rfl⟩, Nat.le_of_ble_eq_true rfl, rfl⟩ (Nat.le_of_ble_eq_true rfl) (Nat.le_of_ble_eq_true rfl) (q_aload_n c_4_0 rfl ?_)
    have h_19 : -2147483648 ≤ (F p0) ∧ (F p0) ≤ 2147483647 := by rw [← hF p0]; exact ir_2 hJ p0
    refine v_cv c_4_1 km_5_41 rfl rfl (Nat.le_of_ble_eq_true rfl) ⟨⟨rfl, rfl⟩, Nat.le_of_ble_eq_true rfl, rfl⟩ (Nat.le_of_ble_eq_true rfl) (Nat.le_of_ble_eq_true rfl) (f_3 (e1 := e1) (a9 := p0) (B := F) (r8 := p0) hJ ((hg_e1)) ((hg_p0)) (fun j => hF j) (nx_z (Or.inl (by first | exact q_a8a084dc8 h_8 hq0 | omega))) (fun c_20 hI_21 hF_22 hz_23 => (bk_inl (q_istore_n c_4_4 (Nat.le_of_ble_eq_true rfl) (q_iconst c_4_5 (q_istore_n c_4_6 (Nat.le_of_ble_eq_true rfl) (q_iload_n c_4_7 rfl (q_aload_n c_4_8 rfl (v_sln 1 c_4_9 rfl (by omega) (Nat.le_of_ble_eq_true rfl) (by decide) (by decide) ?_)))))))))
    refine v_ic_ge_f (t := 55) c_4_12 rfl (by decide) (q_iload_n c_4_15 rfl (q_aload_n c_4_16 rfl ?_))
    have kn_24 : Hid (c_20 1 1 = e1) := (hF_22 1 1 (fun h => absurd h.2 (ni rfl))).trans (hg_e1)
    refine v_gi (z := 1) (v := e1) c_4_17 kf_5_32 rfl (Nat.le_of_ble_eq_true rfl) rfl rfl (hid kn_24) (v_ic_ge_t (t := 55) c_4_20 rfl ⟨(Int.le_trans (by decide) (rg_eq hg_e1 h_1).1), by first | exact q_a8a084dc8 h_8 hq0 | omega, (Int.le_trans (rg_eq hg_p0 h_5).2 (by decide))⟩ (q_iconst c_4_55 (q_iret c_4_56 rfl (bk_inl (q_iconst c_11_12 (v_ic_ne_f (t := 25) c_11_13 rfl (by decide) (q_aload_n c_11_16 rfl ?_)))))))
    refine q_iconst c_11_17 (q_aload_n c_11_18 rfl (v_gi (z := 2) (v := p0) c_11_19 kf_5_35 rfl (Nat.le_of_ble_eq_true rfl) rfl rfl (hz_23) (v_cv c_11_22 km_5_52 rfl rfl (Nat.le_of_ble_eq_true rfl) ⟨⟨rfl, rfl⟩, Nat.le_of_ble_eq_true rfl, rfl⟩ (Nat.le_of_ble_eq_true rfl) (Nat.le_of_ble_eq_true rfl) (q_aload_n c_7_0 rfl ?_))))
    have kn_25 : Hid (c_20 1 4 = f0) := (hF_22 1 4 (fun h => absurd h.2 (ni rfl))).trans (hg_f0)
    refine v_gi (z := 4) (v := f0) c_7_1 kf_5_38 rfl (Nat.le_of_ble_eq_true rfl) rfl rfl (hid kn_25) (v_if_ne_f (t := 17) c_7_4 rfl (by first | exact q_0002e0578 h_8 | omega) (q_aload_n c_7_7 rfl (q_iload_n c_7_8 rfl (v_pi (z := 4) c_7_9 kf_5_38 rfl (Nat.le_of_ble_eq_true rfl) rfl rfl rfl (by decide) (q_aload_n c_7_12 rfl (q_iload_n c_7_13 rfl (v_pi (z := 5) c_7_14 kf_5_15 rfl (Nat.le_of_ble_eq_true rfl) rfl rfl rfl (by decide) ?_)))))))
    refine q_vret rfl rfl (bk_inl (q_vret rfl rfl ?_))
    have hI_26 := iw_1_4 (v := 1) hI_21 ⟨by decide, by decide⟩
    have hI_27 := iw_1_5 (v := p0) hI_26 ⟨(Int.le_trans (by decide) (rg_eq hg_p0 h_5).1), (rg_eq hg_p0 h_5).2⟩
    intro hE_28
    have hW : Wd P Q P P (up (up c_20 1 4 1) 1 5 p0) = Wd P Q P P m9 := (Prod.mk.inj (Prod.mk.inj hE_28).2).1
    have h_29 := ir_1_4 hJ9
    have h_30 : m9 1 4 = 1 := wd_fv (z := 4) 4 rfl hW rfl rfl rfl rfl (by decide) ((up_n (by decide)).trans (up_e rfl)) ⟨by decide, by decide⟩ ⟨(Int.le_trans (by decide) h_29.1), (Int.le_trans h_29.2 (by decide))⟩
    have h_31 := ir_1_2 hJ9
    have h_32 : m9 1 2 = p0 := wd_fv (z := 2) 2 rfl hW rfl rfl rfl rfl (by decide) ((up_n (by decide)).trans ((up_n (by decide)).trans (hz_23))) ⟨(Int.le_trans (by decide) (rg_eq hg_p0 h_5).1), (Int.le_trans (rg_eq hg_p0 h_5).2 (by decide))⟩ ⟨(Int.le_trans (by decide) h_31.1), (Int.le_trans h_31.2 (by decide))⟩
    have h_33 := ir_1_5 hJ9
    have h_34 : m9 1 5 = p0 := wd_fv (z := 5) 5 rfl hW rfl rfl rfl rfl (by decide) (up_e rfl) ⟨(Int.le_trans (by decide) (rg_eq hg_p0 h_5).1), (Int.le_trans (rg_eq hg_p0 h_5).2 (by decide))⟩ ⟨(Int.le_trans (by decide) h_33.1), (Int.le_trans h_33.2 (by decide))⟩
    refine q_aload_n c_161_0 rfl (v_cv c_161_1 km_8_131 rfl rfl (Nat.le_of_ble_eq_true rfl) ⟨⟨rfl, rfl⟩, Nat.le_of_ble_eq_true rfl, rfl⟩ (Nat.le_of_ble_eq_true rfl) (Nat.le_of_ble_eq_true rfl) (q_aload_n c_152_0 rfl (v_gi (z := 5) (v := b0) c_152_1 kf_8_102 rfl (Nat.le_of_ble_eq_true rfl) rfl rfl (hr_b0) (q_iconst c_152_4 (v_ic_ne_t (t := 12) c_152_5 rfl ⟨by first | exact q_14e15ec0e h_31 h_32 h_8 hq0 | omega, ⟨(Int.le_trans (by decide) (rg_eq hr_b0 h_6).1), (Int.le_trans (rg_eq hr_b0 h_6).2 (by decide))⟩, by decide, by decide⟩ (q_iconst c_152_12 (v_zret c_152_13 rfl (by decide) ?_)))))))
    refine bk_inl (v_if_eq_t (t := 24) c_161_4 rfl (by decide) (q_aload_n c_161_24 rfl (v_cv c_161_25 km_8_131 rfl rfl (Nat.le_of_ble_eq_true rfl) ⟨⟨rfl, rfl⟩, Nat.le_of_ble_eq_true rfl, rfl⟩ (Nat.le_of_ble_eq_true rfl) (Nat.le_of_ble_eq_true rfl) (q_aload_n c_152_0 rfl (v_gi (z := 5) (v := b0) c_152_1 kf_8_102 rfl (Nat.le_of_ble_eq_true rfl) rfl rfl (hr_b0) (q_iconst c_152_4 (v_ic_ne_t (t := 12) c_152_5 rfl ⟨by first | exact q_14e15ec0e h_31 h_32 h_8 hq0 | omega, ⟨(Int.le_trans (by decide) (rg_eq hr_b0 h_6).1), (Int.le_trans (rg_eq hr_b0 h_6).2 (by decide))⟩, by decide, by decide⟩ ?_)))))))
    refine q_iconst c_152_12 (v_zret c_152_13 rfl (by decide) (bk_inl (v_if_eq_t (t := 41) c_161_28 rfl (by decide) (q_vret rfl rfl ?_))))
    have h_35 : c 41 5 = b0 := (hr_b0)
    have h_36 := ir_41_4 hI
    have h_37 : c 41 6 = k0 := (hr_k0)
    exact K c  hI (fun a j hm => rfl) (rt_i2 ⟨⟨by first | exact q_5935f82f1 h_30 | omega, by first | exact q_63461c6bf h_30 | omega⟩, by first | exact q_61d4e0e16 h_34 h_8 hq0 | omega, by first | exact q_8d9b59732 h_34 h_5 hg_p0 | omega, by first | exact q_8172a5a87 h_30 h_8 hq0 | omega⟩) (Or.inr (by first | exact q_e2d2b4ae2 h_30 | omega))

