/-! ===== class and reference side by side 3 ===== -/
set_option maxRecDepth 100000 in
set_option maxHeartbeats 4000000 in
theorem L_11_11 {sc : List Int32} {e eg : Int} {d dh u ug P Q P2 Q2 : Nat} {c m m9 : ME} {e1 a9 f0 : Int} {F H : Int → Int} {Z : AR → Prop} (hI : Iv u e P2 Q2 c) (hJ : Iv ug eg P Q m) (hJ9 : Iv ug eg P Q m9) (hg_e1 : m 1 1 = e1) (hr_e1 : c 41 3 = e1) (hg_a9 : m 1 2 = a9) (hg_f0 : m 1 4 = f0) (hF : ∀ j : Int, m 2 j = F j) (hH : ∀ j : Int, c 43 j = H j) (hU : Ub F H) (hRt : Rt m c) (hG : Wp sc (dh + 14) 11 0 [(0, .ref 1), (1, .ref (a_SB + 11))] [] (Wd P Q P P m) 0 0 (fun q => q = (.inl (none), Wd P Q P P m9, 0, 0))) (K : ∀ (c2 : ME), Iv u e P2 Q2 c2 → (∀ (a : Nat) (j : Int), ¬ ((a = 41 ∧ j = 4) ∨ (a = 41 ∧ j = 5) ∨ (a = 41 ∧ j = 6)) → c2 a j = c a j) → (Rt m9 c2) → ((m9 1 4 < 0) ∨ (m9 1 4 > 0) ∨ (m9 1 2 > a9 ∧ m9 1 2 ≤ e1)) → ((m9 1 4 < 0) ∨ (m9 1 4 > 0) ∨ (f0 = 0)) → Z (.inl (none), Wd P2 Q2 P2 P2 c2, 0, 0)) : Wp sc (d + 14) 161 0 [(0, .ref 41), (1, vi 91)] [] (Wd P2 Q2 P2 P2 c) 0 0 Z := by
  have hP := iv_P hJ
  have hQ := iv_Q hJ
  have h_1 := ir_1_1 hJ
  have h_2 := ir_41_3 hI
  have h_3 := ir_1_2 hJ
  have h_4 := ir_1_4 hJ
  refine gh hG ?_
  by_cases hs9 : m 1 4 = 0
  · skip
    have hs8 := (rt_ok hRt hs9).2.2.2
    refine q_aload_n rfl rfl ?_
    refine v_cv rfl rfl rfl rfl (by decide) ⟨⟨rfl, rfl⟩, by decide, rfl⟩ (Nat.le_of_ble_eq_true rfl) (Nat.le_of_ble_eq_true rfl) ?_
    refine q_aload_n rfl rfl ?_
    refine v_gi (z := 4) (v := 0) rfl rfl rfl (by decide) rfl rfl (hs9) ?_
    refine v_if_ne_f (t := 11) rfl (by decide) (by decide) ?_
    refine q_iconst rfl ?_
    refine q_goto (t := 12) rfl (by decide) ?_
    refine v_zret rfl rfl (by decide) ?_
    refine bk_inl ?_
    refine v_if_eq_f (t := 25) rfl (by decide) (by decide) ?_
    refine q_aload_n rfl rfl ?_
    refine q_aload_n rfl rfl ?_
    refine v_cv rfl rfl rfl rfl (by decide) ⟨⟨rfl, rfl⟩, by decide, rfl⟩ (Nat.le_of_ble_eq_true rfl) (Nat.le_of_ble_eq_true rfl) ?_
    refine q_aload_n rfl rfl ?_
    have h_5 : -2147483648 ≤ (F a9) ∧ (F a9) ≤ 2147483647 := by rw [← hF a9]; exact ir_2 hJ a9
    have h_6 := nx_bd (b := F) (e := e1) (a := a9)
    have h_7 : -2147483648 ≤ (F (nx F e1 a9)) ∧ (F (nx F e1 a9)) ≤ 2147483647 := by rw [← hF (nx F e1 a9)]; exact ir_2 hJ (nx F e1 a9)
    have h_8 := nx_n (b := F) (e := e1) (a := a9)
    refine v_cv rfl rfl rfl rfl (by decide) ⟨⟨rfl, rfl⟩, by decide, rfl⟩ (Nat.le_of_ble_eq_true rfl) (Nat.le_of_ble_eq_true rfl) (f_3 (e1 := e1) (a9 := a9) (B := F) (r8 := (nx F e1 a9)) hJ ((hg_e1)) ((hg_a9)) (fun j => hF j) rfl (fun c_9 hI_10 hF_11 hz_12 => ?_))
    refine bk_inl ?_
    refine q_istore_n rfl (by decide) ?_
    refine q_iconst rfl ?_
    refine q_istore_n rfl (by decide) ?_
    refine q_iload_n rfl rfl ?_
    refine q_aload_n rfl rfl ?_
    refine v_sln 1 rfl rfl (by omega) (Nat.le_of_ble_eq_true rfl) (by decide) (by decide) ?_
    refine v_ic_ge_f (t := 55) rfl (by decide) (by decide) ?_
    refine q_iload_n rfl rfl ?_
    refine q_aload_n rfl rfl ?_
    have kn_13 : Hid (c_9 1 1 = e1) := (hF_11 1 1 (fun h => absurd h.2 (ni rfl))).trans (hg_e1)
    refine v_gi (z := 1) (v := e1) rfl rfl rfl (by decide) rfl rfl (hid kn_13) ?_
    by_cases h_14 : (nx F e1 a9) ≥ e1
    · refine v_ic_ge_t (t := 55) rfl (by decide) (by omega) ?_
      refine q_iconst rfl ?_
      refine q_iret rfl rfl ?_
      refine bk_inl ?_
      refine q_iconst rfl ?_
      refine v_ic_ne_f (t := 25) rfl (by decide) (by decide) ?_
      refine q_aload_n rfl rfl ?_
      refine q_iconst rfl ?_
      refine q_aload_n rfl rfl ?_
      refine v_gi (z := 2) (v := (nx F e1 a9)) rfl rfl rfl (by decide) rfl rfl (hz_12) ?_
      refine v_cv rfl rfl rfl rfl (by decide) ⟨⟨rfl, rfl⟩, by decide, rfl⟩ (Nat.le_of_ble_eq_true rfl) (Nat.le_of_ble_eq_true rfl) ?_
      refine q_aload_n rfl rfl ?_
      have kn_15 : Hid (c_9 1 4 = 0) := (hF_11 1 4 (fun h => absurd h.2 (ni rfl))).trans (hs9)
      refine v_gi (z := 4) (v := 0) rfl rfl rfl (by decide) rfl rfl (hid kn_15) ?_
      refine v_if_ne_f (t := 17) rfl (by decide) (by decide) ?_
      refine q_aload_n rfl rfl ?_
      refine q_iload_n rfl rfl ?_
      refine v_pi (z := 4) rfl rfl rfl (by decide) rfl rfl rfl (by decide) ?_
      refine q_aload_n rfl rfl ?_
      refine q_iload_n rfl rfl ?_
      refine v_pi (z := 5) rfl rfl rfl (by decide) rfl rfl rfl (by decide) ?_
      refine q_vret rfl rfl ?_
      refine bk_inl ?_
      refine q_vret rfl rfl ?_
      have hI_16 := iw_1_4 (v := 1) hI_10 ⟨by decide, by decide⟩
      have hI_17 := iw_1_5 (v := (nx F e1 a9)) hI_16 ⟨by omega, by omega⟩
      intro hE_18
      have hW : Wd P Q P P (up (up c_9 1 4 1) 1 5 (nx F e1 a9)) = Wd P Q P P m9 := (Prod.mk.inj (Prod.mk.inj hE_18).2).1
      have h_19 := ir_1_4 hJ9
      have h_20 : m9 1 4 = 1 := wd_fv (z := 4) 4 rfl hW rfl rfl rfl rfl (by decide) ((up_n (by decide)).trans (up_e rfl)) ⟨by omega, by omega⟩ ⟨by omega, by omega⟩
      have h_21 := ir_1_2 hJ9
      have h_22 : m9 1 2 = (nx F e1 a9) := wd_fv (z := 2) 2 rfl hW rfl rfl rfl rfl (by decide) ((up_n (by decide)).trans ((up_n (by decide)).trans (hz_12))) ⟨by omega, by omega⟩ ⟨by omega, by omega⟩
      have h_23 := ir_1_5 hJ9
      have h_24 : m9 1 5 = (nx F e1 a9) := wd_fv (z := 5) 5 rfl hW rfl rfl rfl rfl (by decide) (up_e rfl) ⟨by omega, by omega⟩ ⟨by omega, by omega⟩
      refine q_aload_n rfl rfl ?_
      refine v_cv rfl rfl rfl rfl (by decide) ⟨⟨rfl, rfl⟩, by decide, rfl⟩ (Nat.le_of_ble_eq_true rfl) (Nat.le_of_ble_eq_true rfl) ?_
      refine q_aload_n rfl rfl ?_
      have h_25 := ir_41_5 hI
      have h_26 := ir_1_5 hJ
      have h_27 := ir_41_4 hI
      have h_28 := ir_41_6 hI
      have h_29 := rt_ok hRt (by omega)
      have hro_hRt := rt_ok hRt (by omega)
      refine v_gi (z := 5) (v := (-1)) rfl rfl rfl (by decide) rfl rfl hro_hRt.2.1 ?_
      refine q_iconst rfl ?_
      refine v_ic_ne_f (t := 12) rfl (by decide) (by decide) ?_
      refine q_iconst rfl ?_
      refine q_goto (t := 13) rfl (by decide) ?_
      refine v_zret rfl rfl (by decide) ?_
      refine bk_inl ?_
      refine v_if_eq_f (t := 24) rfl (by decide) (by decide) ?_
      refine q_aload_n rfl rfl ?_
      have h_30 : -2147483648 ≤ (H (nx F e1 a9)) ∧ (H (nx F e1 a9)) ≤ 2147483647 := by rw [← hH (nx F e1 a9)]; exact ir_43 hI (nx F e1 a9)
      have h_31 : (nx F e1 a9) < 600 → (H (nx F e1 a9)) = (F (nx F e1 a9)) % 256 ∧ -128 ≤ (F (nx F e1 a9)) ∧ (F (nx F e1 a9)) ≤ 127 := fun q => hU (nx F e1 a9) (by omega) q
      have h_32 := hb_or (b := H) (e := e1) (r := (nx F e1 a9))
      have h_33 := hb_bd (b := H) (e := e1) (r := (nx F e1 a9)) (lo := -2147483648) (hi := 2147483647) ⟨by omega, by omega⟩ (by decide)
      refine v_cv rfl rfl rfl rfl (by decide) ⟨⟨rfl, rfl⟩, by decide, rfl⟩ (Nat.le_of_ble_eq_true rfl) (Nat.le_of_ble_eq_true rfl) (f_154 (e1 := e1) (a9 := a9) (B := H) (r8 := (nx F e1 a9)) (r := (hb H e1 (nx F e1 a9))) hI ((hr_e1)) (((hro_hRt.2.2.1).trans ((hg_a9)))) (fun j => hH j) ((nx_tr hU (by omega) (by omega)).trans (rfl)) rfl (fun c_34 hI_35 hF_36 h_37 => ?_))
      refine bk_inl ?_
      refine q_iload_n rfl rfl ?_
      refine v_ic_eq_f (t := 24) rfl (by decide) (by omega) ?_
      refine q_aload_n rfl rfl ?_
      refine q_iconst rfl ?_
      refine q_aload_n rfl rfl ?_
      refine v_gi (z := 4) (v := (nx F e1 a9)) rfl rfl rfl (by decide) rfl rfl (h_37) ?_
      refine v_cv rfl rfl rfl rfl (by decide) ⟨⟨rfl, rfl⟩, by decide, rfl⟩ (Nat.le_of_ble_eq_true rfl) (Nat.le_of_ble_eq_true rfl) ?_
      refine q_aload_n rfl rfl ?_
      have kn_38 : Hid (c_34 41 5 = (-1)) := (hF_36 41 5 (fun h => absurd h.2 (ni rfl))).trans hro_hRt.2.1
      refine v_gi (z := 5) (v := (-1)) rfl rfl rfl (by decide) rfl rfl (hid kn_38) ?_
      refine q_iconst rfl ?_
      refine v_ic_eq_t (t := 9) rfl (by decide) (by decide) ?_
      refine q_aload_n rfl rfl ?_
      refine q_iload_n rfl rfl ?_
      refine v_pi (z := 5) rfl rfl rfl (by decide) rfl rfl rfl (by decide) ?_
      refine q_aload_n rfl rfl ?_
      refine q_iload_n rfl rfl ?_
      refine v_pi (z := 6) rfl rfl rfl (by decide) rfl rfl rfl (by decide) ?_
      refine q_vret rfl rfl ?_
      refine bk_inl ?_
      refine q_aload_n rfl rfl ?_
      refine v_cv rfl rfl rfl rfl (by decide) ⟨⟨rfl, rfl⟩, by decide, rfl⟩ (Nat.le_of_ble_eq_true rfl) (Nat.le_of_ble_eq_true rfl) ?_
      refine q_aload_n rfl rfl ?_
      refine v_gi (z := 5) (v := (nx F e1 a9)) rfl rfl rfl (by decide) rfl rfl ((up_n (by decide)).trans (up_e rfl)) ?_
      refine q_iconst rfl ?_
      refine v_ic_ne_t (t := 12) rfl (by decide) (by omega) ?_
      refine q_iconst rfl ?_
      refine v_zret rfl rfl (by decide) ?_
      refine bk_inl ?_
      refine v_if_eq_t (t := 41) rfl (by decide) (by decide) ?_
      refine q_vret rfl rfl ?_
      have hI_39 := iw_41_5 (v := (nx F e1 a9)) hI_35 ⟨by omega, by omega⟩
      have hI_40 := iw_41_6 (v := 1) hI_39 ⟨by decide, by decide⟩
      have h_41 : (up (up c_34 41 5 (nx F e1 a9)) 41 6 1) 41 5 = (nx F e1 a9) := ((up_n (by decide)).trans (up_e rfl))
      have h_42 : (up (up c_34 41 5 (nx F e1 a9)) 41 6 1) 41 4 = (nx F e1 a9) := ((up_n (by decide)).trans ((up_n (by decide)).trans (h_37)))
      have h_43 : (up (up c_34 41 5 (nx F e1 a9)) 41 6 1) 41 6 = 1 := (up_e rfl)
      exact K (up (up c_34 41 5 (nx F e1 a9)) 41 6 1)  hI_40 (fun a j hm => (up_b (Decidable.or_iff_not_imp_left.mpr (fun h1 h2 => hm (Or.inr (Or.inr ⟨Decidable.not_not.mp h1, h2⟩))))).trans ((up_b (Decidable.or_iff_not_imp_left.mpr (fun h1 h2 => hm (Or.inr (Or.inl ⟨Decidable.not_not.mp h1, h2⟩))))).trans (hF_36 a j (fun h => hm (Or.inl h))))) (by unfold Rt; omega) (by omega) (by omega)
    · refine v_ic_ge_f (t := 55) rfl (by decide) (by omega) ?_
      refine q_aload_n rfl rfl ?_
      refine v_gr (t := 2) rfl rfl rfl (by decide) rfl ?_
      refine q_iload_n rfl rfl ?_
      have kn_44 : Hid (c_9 2 (nx F e1 a9) = (F (nx F e1 a9))) := (hF_11 2 (nx F e1 a9) (fun h => absurd h.1 (nn rfl))).trans (hF (nx F e1 a9))
      refine v_ba (v := (F (nx F e1 a9))) rfl rfl (by decide) (by decide) (by omega) (hid kn_44) ?_
      refine q_aload_n rfl rfl ?_
      refine q_iload_n rfl rfl ?_
      refine v_sch 91 rfl rfl (by omega) (Nat.le_of_ble_eq_true rfl) (by decide) (by decide) (by decide) ?_
      by_cases h_45 : (F (nx F e1 a9)) ≠ 91
      · refine v_ic_ne_t (t := 49) rfl (by decide) (by omega) ?_
        refine v_iinc (v := 1) rfl rfl (by decide) (by decide) ?_
        refine q_goto (t := 7) rfl (by decide) ?_
        refine q_iload_n rfl rfl ?_
        refine q_aload_n rfl rfl ?_
        refine v_sln 1 rfl rfl (by omega) (Nat.le_of_ble_eq_true rfl) (by decide) (by decide) ?_
        refine v_ic_ge_t (t := 55) rfl (by decide) (by decide) ?_
        refine q_iconst rfl ?_
        refine q_iret rfl rfl ?_
        refine bk_inl ?_
        refine q_iconst rfl ?_
        refine v_ic_ne_f (t := 25) rfl (by decide) (by decide) ?_
        refine q_aload_n rfl rfl ?_
        refine q_iconst rfl ?_
        refine q_aload_n rfl rfl ?_
        refine v_gi (z := 2) (v := (nx F e1 a9)) rfl rfl rfl (by decide) rfl rfl (hz_12) ?_
        refine v_cv rfl rfl rfl rfl (by decide) ⟨⟨rfl, rfl⟩, by decide, rfl⟩ (Nat.le_of_ble_eq_true rfl) (Nat.le_of_ble_eq_true rfl) ?_
        refine q_aload_n rfl rfl ?_
        have kn_46 : Hid (c_9 1 4 = 0) := (hF_11 1 4 (fun h => absurd h.2 (ni rfl))).trans (hs9)
        refine v_gi (z := 4) (v := 0) rfl rfl rfl (by decide) rfl rfl (hid kn_46) ?_
        refine v_if_ne_f (t := 17) rfl (by decide) (by decide) ?_
        refine q_aload_n rfl rfl ?_
        refine q_iload_n rfl rfl ?_
        refine v_pi (z := 4) rfl rfl rfl (by decide) rfl rfl rfl (by decide) ?_
        refine q_aload_n rfl rfl ?_
        refine q_iload_n rfl rfl ?_
        refine v_pi (z := 5) rfl rfl rfl (by decide) rfl rfl rfl (by decide) ?_
        refine q_vret rfl rfl ?_
        refine bk_inl ?_
        refine q_vret rfl rfl ?_
        have hI_47 := iw_1_4 (v := 1) hI_10 ⟨by decide, by decide⟩
        have hI_48 := iw_1_5 (v := (nx F e1 a9)) hI_47 ⟨by omega, by omega⟩
        intro hE_49
        have hW : Wd P Q P P (up (up c_9 1 4 1) 1 5 (nx F e1 a9)) = Wd P Q P P m9 := (Prod.mk.inj (Prod.mk.inj hE_49).2).1
        have h_50 := ir_1_4 hJ9
        have h_51 : m9 1 4 = 1 := wd_fv (z := 4) 4 rfl hW rfl rfl rfl rfl (by decide) ((up_n (by decide)).trans (up_e rfl)) ⟨by omega, by omega⟩ ⟨by omega, by omega⟩
        have h_52 := ir_1_2 hJ9
        have h_53 : m9 1 2 = (nx F e1 a9) := wd_fv (z := 2) 2 rfl hW rfl rfl rfl rfl (by decide) ((up_n (by decide)).trans ((up_n (by decide)).trans (hz_12))) ⟨by omega, by omega⟩ ⟨by omega, by omega⟩
        have h_54 := ir_1_5 hJ9
        have h_55 : m9 1 5 = (nx F e1 a9) := wd_fv (z := 5) 5 rfl hW rfl rfl rfl rfl (by decide) (up_e rfl) ⟨by omega, by omega⟩ ⟨by omega, by omega⟩
        refine q_aload_n rfl rfl ?_
        refine v_cv rfl rfl rfl rfl (by decide) ⟨⟨rfl, rfl⟩, by decide, rfl⟩ (Nat.le_of_ble_eq_true rfl) (Nat.le_of_ble_eq_true rfl) ?_
        refine q_aload_n rfl rfl ?_
        have h_56 := ir_41_5 hI
        have h_57 := ir_1_5 hJ
        have h_58 := ir_41_4 hI
        have h_59 := ir_41_6 hI
        have h_60 := rt_ok hRt (by omega)
        have hro_hRt := rt_ok hRt (by omega)
        refine v_gi (z := 5) (v := (-1)) rfl rfl rfl (by decide) rfl rfl hro_hRt.2.1 ?_
        refine q_iconst rfl ?_
        refine v_ic_ne_f (t := 12) rfl (by decide) (by decide) ?_
        refine q_iconst rfl ?_
        refine q_goto (t := 13) rfl (by decide) ?_
        refine v_zret rfl rfl (by decide) ?_
        refine bk_inl ?_
        refine v_if_eq_f (t := 24) rfl (by decide) (by decide) ?_
        refine q_aload_n rfl rfl ?_
        have h_61 : -2147483648 ≤ (H (nx F e1 a9)) ∧ (H (nx F e1 a9)) ≤ 2147483647 := by rw [← hH (nx F e1 a9)]; exact ir_43 hI (nx F e1 a9)
        have h_62 := hU (nx F e1 a9) (by omega) (by omega)
        have h_63 := hb_or (b := H) (e := e1) (r := (nx F e1 a9))
        have h_64 := hb_bd (b := H) (e := e1) (r := (nx F e1 a9)) (lo := -2147483648) (hi := 2147483647) ⟨by omega, by omega⟩ (by decide)
        refine v_cv rfl rfl rfl rfl (by decide) ⟨⟨rfl, rfl⟩, by decide, rfl⟩ (Nat.le_of_ble_eq_true rfl) (Nat.le_of_ble_eq_true rfl) (f_154 (e1 := e1) (a9 := a9) (B := H) (r8 := (nx F e1 a9)) (r := (hb H e1 (nx F e1 a9))) hI ((hr_e1)) (((hro_hRt.2.2.1).trans ((hg_a9)))) (fun j => hH j) ((nx_tr hU (by omega) (by omega)).trans (rfl)) rfl (fun c_65 hI_66 hF_67 h_68 => ?_))
        refine bk_inl ?_
        refine q_iload_n rfl rfl ?_
        refine v_ic_eq_f (t := 24) rfl (by decide) (by omega) ?_
        refine q_aload_n rfl rfl ?_
        refine q_iconst rfl ?_
        refine q_aload_n rfl rfl ?_
        refine v_gi (z := 4) (v := (nx F e1 a9)) rfl rfl rfl (by decide) rfl rfl (h_68) ?_
        refine v_cv rfl rfl rfl rfl (by decide) ⟨⟨rfl, rfl⟩, by decide, rfl⟩ (Nat.le_of_ble_eq_true rfl) (Nat.le_of_ble_eq_true rfl) ?_
        refine q_aload_n rfl rfl ?_
        have kn_69 : Hid (c_65 41 5 = (-1)) := (hF_67 41 5 (fun h => absurd h.2 (ni rfl))).trans hro_hRt.2.1
        refine v_gi (z := 5) (v := (-1)) rfl rfl rfl (by decide) rfl rfl (hid kn_69) ?_
        refine q_iconst rfl ?_
        refine v_ic_eq_t (t := 9) rfl (by decide) (by decide) ?_
        refine q_aload_n rfl rfl ?_
        refine q_iload_n rfl rfl ?_
        refine v_pi (z := 5) rfl rfl rfl (by decide) rfl rfl rfl (by decide) ?_
        refine q_aload_n rfl rfl ?_
        refine q_iload_n rfl rfl ?_
        refine v_pi (z := 6) rfl rfl rfl (by decide) rfl rfl rfl (by decide) ?_
        refine q_vret rfl rfl ?_
        refine bk_inl ?_
        refine q_aload_n rfl rfl ?_
        refine v_cv rfl rfl rfl rfl (by decide) ⟨⟨rfl, rfl⟩, by decide, rfl⟩ (Nat.le_of_ble_eq_true rfl) (Nat.le_of_ble_eq_true rfl) ?_
        refine q_aload_n rfl rfl ?_
        refine v_gi (z := 5) (v := (nx F e1 a9)) rfl rfl rfl (by decide) rfl rfl ((up_n (by decide)).trans (up_e rfl)) ?_
        refine q_iconst rfl ?_
        refine v_ic_ne_t (t := 12) rfl (by decide) (by omega) ?_
        refine q_iconst rfl ?_
        refine v_zret rfl rfl (by decide) ?_
        refine bk_inl ?_
        refine v_if_eq_t (t := 41) rfl (by decide) (by decide) ?_
        refine q_vret rfl rfl ?_
        have hI_70 := iw_41_5 (v := (nx F e1 a9)) hI_66 ⟨by omega, by omega⟩
        have hI_71 := iw_41_6 (v := 1) hI_70 ⟨by decide, by decide⟩
        have h_72 : (up (up c_65 41 5 (nx F e1 a9)) 41 6 1) 41 5 = (nx F e1 a9) := ((up_n (by decide)).trans (up_e rfl))
        have h_73 : (up (up c_65 41 5 (nx F e1 a9)) 41 6 1) 41 4 = (nx F e1 a9) := ((up_n (by decide)).trans ((up_n (by decide)).trans (h_68)))
        have h_74 : (up (up c_65 41 5 (nx F e1 a9)) 41 6 1) 41 6 = 1 := (up_e rfl)
        exact K (up (up c_65 41 5 (nx F e1 a9)) 41 6 1)  hI_71 (fun a j hm => (up_b (Decidable.or_iff_not_imp_left.mpr (fun h1 h2 => hm (Or.inr (Or.inr ⟨Decidable.not_not.mp h1, h2⟩))))).trans ((up_b (Decidable.or_iff_not_imp_left.mpr (fun h1 h2 => hm (Or.inr (Or.inl ⟨Decidable.not_not.mp h1, h2⟩))))).trans (hF_67 a j (fun h => hm (Or.inl h))))) (by unfold Rt; omega) (by omega) (by omega)
      · refine v_ic_ne_f (t := 49) rfl (by decide) (by omega) ?_
        refine q_aload_n rfl rfl ?_
        refine q_dup rfl rfl ?_
        refine v_gi (z := 2) (v := (nx F e1 a9)) rfl rfl rfl (by decide) rfl rfl (hz_12) ?_
        refine q_iconst rfl ?_
        refine v_iadd (v := (nx F e1 a9) + 1) rfl (by omega) ?_
        refine v_pi (z := 2) rfl rfl rfl (by decide) rfl rfl rfl (by decide) ?_
        refine q_iload_n rfl rfl ?_
        refine q_iret rfl rfl ?_
        refine bk_inl ?_
        refine q_iconst rfl ?_
        refine v_ic_ne_t (t := 25) rfl (by decide) (by decide) ?_
        refine q_vret rfl rfl ?_
        have hI_75 := iw_1_2 (v := (nx F e1 a9) + 1) hI_10 ⟨by omega, by omega⟩
        intro hE_76
        have hW : Wd P Q P P (up c_9 1 2 ((nx F e1 a9) + 1)) = Wd P Q P P m9 := (Prod.mk.inj (Prod.mk.inj hE_76).2).1
        have kn_77 : Hid (c_9 1 4 = 0) := (hF_11 1 4 (fun h => absurd h.2 (ni rfl))).trans (hs9)
        have h_78 := ir_1_4 hJ9
        have h_79 : m9 1 4 = 0 := wd_fv (z := 4) 4 rfl hW rfl rfl rfl rfl (by decide) ((up_n (by decide)).trans (hid kn_77)) ⟨by omega, by omega⟩ ⟨by omega, by omega⟩
        have h_80 := ir_1_2 hJ9
        have h_81 : m9 1 2 = (nx F e1 a9) + 1 := wd_fv (z := 2) 2 rfl hW rfl rfl rfl rfl (by decide) (up_e rfl) ⟨by omega, by omega⟩ ⟨by omega, by omega⟩
        have kn_82 : Hid (c_9 1 5 = (-1)) := (hF_11 1 5 (fun h => absurd h.2 (ni rfl))).trans (hs8)
        have h_83 := ir_1_5 hJ9
        have h_84 : m9 1 5 = (-1) := wd_fv (z := 5) 5 rfl hW rfl rfl rfl rfl (by decide) ((up_n (by decide)).trans (hid kn_82)) ⟨by omega, by omega⟩ ⟨by omega, by omega⟩
        refine q_aload_n rfl rfl ?_
        refine v_cv rfl rfl rfl rfl (by decide) ⟨⟨rfl, rfl⟩, by decide, rfl⟩ (Nat.le_of_ble_eq_true rfl) (Nat.le_of_ble_eq_true rfl) ?_
        refine q_aload_n rfl rfl ?_
        have h_85 := ir_41_5 hI
        have h_86 := ir_1_5 hJ
        have h_87 := ir_41_4 hI
        have h_88 := ir_41_6 hI
        have h_89 := rt_ok hRt (by omega)
        have hro_hRt := rt_ok hRt (by omega)
        refine v_gi (z := 5) (v := (-1)) rfl rfl rfl (by decide) rfl rfl hro_hRt.2.1 ?_
        refine q_iconst rfl ?_
        refine v_ic_ne_f (t := 12) rfl (by decide) (by decide) ?_
        refine q_iconst rfl ?_
        refine q_goto (t := 13) rfl (by decide) ?_
        refine v_zret rfl rfl (by decide) ?_
        refine bk_inl ?_
        refine v_if_eq_f (t := 24) rfl (by decide) (by decide) ?_
        refine q_aload_n rfl rfl ?_
        have h_90 : -2147483648 ≤ (H (nx F e1 a9)) ∧ (H (nx F e1 a9)) ≤ 2147483647 := by rw [← hH (nx F e1 a9)]; exact ir_43 hI (nx F e1 a9)
        have h_91 := hU (nx F e1 a9) (by omega) (by omega)
        have h_92 := hb_or (b := H) (e := e1) (r := (nx F e1 a9))
        have h_93 := hb_bd (b := H) (e := e1) (r := (nx F e1 a9)) (lo := -2147483648) (hi := 2147483647) ⟨by omega, by omega⟩ (by decide)
        refine v_cv rfl rfl rfl rfl (by decide) ⟨⟨rfl, rfl⟩, by decide, rfl⟩ (Nat.le_of_ble_eq_true rfl) (Nat.le_of_ble_eq_true rfl) (f_154 (e1 := e1) (a9 := a9) (B := H) (r8 := (nx F e1 a9)) (r := (hb H e1 (nx F e1 a9))) hI ((hr_e1)) (((hro_hRt.2.2.1).trans ((hg_a9)))) (fun j => hH j) ((nx_tr hU (by omega) (by omega)).trans (rfl)) rfl (fun c_94 hI_95 hF_96 h_97 => ?_))
        refine bk_inl ?_
        refine q_iload_n rfl rfl ?_
        refine v_ic_eq_t (t := 24) rfl (by decide) (by omega) ?_
        refine q_aload_n rfl rfl ?_
        refine v_cv rfl rfl rfl rfl (by decide) ⟨⟨rfl, rfl⟩, by decide, rfl⟩ (Nat.le_of_ble_eq_true rfl) (Nat.le_of_ble_eq_true rfl) ?_
        refine q_aload_n rfl rfl ?_
        have kn_98 : Hid (c_94 41 5 = (-1)) := (hF_96 41 5 (fun h => absurd h.2 (ni rfl))).trans hro_hRt.2.1
        refine v_gi (z := 5) (v := (-1)) rfl rfl rfl (by decide) rfl rfl (hid kn_98) ?_
        refine q_iconst rfl ?_
        refine v_ic_ne_f (t := 12) rfl (by decide) (by decide) ?_
        refine q_iconst rfl ?_
        refine q_goto (t := 13) rfl (by decide) ?_
        refine v_zret rfl rfl (by decide) ?_
        refine bk_inl ?_
        refine v_if_eq_f (t := 41) rfl (by decide) (by decide) ?_
        refine q_aload_n rfl rfl ?_
        refine q_dup rfl rfl ?_
        refine v_gi (z := 4) (v := (nx F e1 a9)) rfl rfl rfl (by decide) rfl rfl (h_97) ?_
        refine q_iconst rfl ?_
        refine v_iadd (v := (nx F e1 a9) + 1) rfl (by omega) ?_
        refine v_pi (z := 4) rfl rfl rfl (by decide) rfl rfl rfl (by decide) ?_
        refine q_vret rfl rfl ?_
        have hI_99 := iw_41_4 (v := (nx F e1 a9) + 1) hI_95 ⟨by omega, by omega⟩
        have h_100 : (up c_94 41 4 ((nx F e1 a9) + 1)) 41 5 = (-1) := ((up_n (by decide)).trans (hid kn_98))
        have h_101 : (up c_94 41 4 ((nx F e1 a9) + 1)) 41 4 = (nx F e1 a9) + 1 := (up_e rfl)
        have kn_102 : Hid (c_94 41 6 = c 41 6) := hF_96 41 6 (fun h => absurd h.2 (ni rfl))
        have h_103 : (up c_94 41 4 ((nx F e1 a9) + 1)) 41 6 = c 41 6 := ((up_n (by decide)).trans (hid kn_102))
        exact K (up c_94 41 4 ((nx F e1 a9) + 1))  hI_99 (fun a j hm => (up_b (Decidable.or_iff_not_imp_left.mpr (fun h1 h2 => hm (Or.inl ⟨Decidable.not_not.mp h1, h2⟩)))).trans (hF_96 a j (fun h => hm (Or.inl h)))) (by unfold Rt; omega) (by omega) (by omega)
  · skip
    refine q_aload_n rfl rfl ?_
    refine v_cv rfl rfl rfl rfl (by decide) ⟨⟨rfl, rfl⟩, by decide, rfl⟩ (Nat.le_of_ble_eq_true rfl) (Nat.le_of_ble_eq_true rfl) ?_
    refine q_aload_n rfl rfl ?_
    refine v_gi (z := 4) (v := f0) rfl rfl rfl (by decide) rfl rfl (hg_f0) ?_
    refine v_if_ne_t (t := 11) rfl (by decide) (by omega) ?_
    refine q_iconst rfl ?_
    refine v_zret rfl rfl (by decide) ?_
    refine bk_inl ?_
    refine v_if_eq_t (t := 25) rfl (by decide) (by decide) ?_
    refine q_vret rfl rfl ?_
    intro hE_104
    have hW : Wd P Q P P m = Wd P Q P P m9 := (Prod.mk.inj (Prod.mk.inj hE_104).2).1
    have h_105 := ir_1_4 hJ9
    have h_106 : m9 1 4 = f0 := wd_fv (z := 4) 4 rfl hW rfl rfl rfl rfl (by decide) (hg_f0) ⟨by omega, by omega⟩ ⟨by omega, by omega⟩
    have h_107 := ir_1_2 hJ9
    have h_108 : m9 1 2 = a9 := wd_fv (z := 2) 2 rfl hW rfl rfl rfl rfl (by decide) (hg_a9) ⟨by omega, by omega⟩ ⟨by omega, by omega⟩
    have h_109 := ir_1_5 hJ
    have h_110 := ir_1_5 hJ9
    have h_111 : m9 1 5 = m 1 5 := wd_fv (z := 5) 5 rfl hW rfl rfl rfl rfl (by decide) rfl ⟨by omega, by omega⟩ ⟨by omega, by omega⟩
    refine q_aload_n rfl rfl ?_
    refine v_cv rfl rfl rfl rfl (by decide) ⟨⟨rfl, rfl⟩, by decide, rfl⟩ (Nat.le_of_ble_eq_true rfl) (Nat.le_of_ble_eq_true rfl) ?_
    refine q_aload_n rfl rfl ?_
    have h_112 := ir_41_5 hI
    have h_113 := ir_41_4 hI
    have h_114 := ir_41_6 hI
    have h_115 := rt_bad hRt (by omega)
    have hrb_hRt := rt_bad hRt (by omega)
    refine v_gi (z := 5) (v := m 1 5) rfl rfl rfl (by decide) rfl rfl hrb_hRt.2.1 ?_
    refine q_iconst rfl ?_
    refine v_ic_ne_t (t := 12) rfl (by decide) (by omega) ?_
    refine q_iconst rfl ?_
    refine v_zret rfl rfl (by decide) ?_
    refine bk_inl ?_
    refine v_if_eq_t (t := 24) rfl (by decide) (by decide) ?_
    refine q_aload_n rfl rfl ?_
    refine v_cv rfl rfl rfl rfl (by decide) ⟨⟨rfl, rfl⟩, by decide, rfl⟩ (Nat.le_of_ble_eq_true rfl) (Nat.le_of_ble_eq_true rfl) ?_
    refine q_aload_n rfl rfl ?_
    refine v_gi (z := 5) (v := m 1 5) rfl rfl rfl (by decide) rfl rfl hrb_hRt.2.1 ?_
    refine q_iconst rfl ?_
    refine v_ic_ne_t (t := 12) rfl (by decide) (by omega) ?_
    refine q_iconst rfl ?_
    refine v_zret rfl rfl (by decide) ?_
    refine bk_inl ?_
    refine v_if_eq_t (t := 41) rfl (by decide) (by decide) ?_
    refine q_vret rfl rfl ?_
    have h_116 : c 41 5 = m 1 5 := hrb_hRt.2.1
    have h_117 : c 41 6 = f0 := ((hrb_hRt.2.2.2).trans ((hg_f0)))
    exact K c  hI (fun a j hm => rfl) (by unfold Rt; omega) (by omega) (by omega)

set_option maxRecDepth 100000 in
set_option maxHeartbeats 4000000 in
theorem L_11_12 {sc : List Int32} {e eg : Int} {d dh u ug P Q P2 Q2 : Nat} {c m m9 : ME} {e1 a9 f0 : Int} {F H : Int → Int} {Z : AR → Prop} (hI : Iv u e P2 Q2 c) (hJ : Iv ug eg P Q m) (hJ9 : Iv ug eg P Q m9) (hg_e1 : m 1 1 = e1) (hr_e1 : c 41 3 = e1) (hg_a9 : m 1 2 = a9) (hg_f0 : m 1 4 = f0) (hF : ∀ j : Int, m 2 j = F j) (hH : ∀ j : Int, c 43 j = H j) (hU : Ub F H) (hRt : Rt m c) (hG : Wp sc (dh + 14) 11 0 [(0, .ref 1), (1, .ref (a_SB + 12))] [] (Wd P Q P P m) 0 0 (fun q => q = (.inl (none), Wd P Q P P m9, 0, 0))) (K : ∀ (c2 : ME), Iv u e P2 Q2 c2 → (∀ (a : Nat) (j : Int), ¬ ((a = 41 ∧ j = 4) ∨ (a = 41 ∧ j = 5) ∨ (a = 41 ∧ j = 6)) → c2 a j = c a j) → (Rt m9 c2) → ((m9 1 4 < 0) ∨ (m9 1 4 > 0) ∨ (m9 1 2 > a9 ∧ m9 1 2 ≤ e1)) → ((m9 1 4 < 0) ∨ (m9 1 4 > 0) ∨ (f0 = 0)) → Z (.inl (none), Wd P2 Q2 P2 P2 c2, 0, 0)) : Wp sc (d + 14) 161 0 [(0, .ref 41), (1, vi 93)] [] (Wd P2 Q2 P2 P2 c) 0 0 Z := by
  have hP := iv_P hJ
  have hQ := iv_Q hJ
  have h_1 := ir_1_1 hJ
  have h_2 := ir_41_3 hI
  have h_3 := ir_1_2 hJ
  have h_4 := ir_1_4 hJ
  refine gh hG ?_
  by_cases hs9 : m 1 4 = 0
  · skip
    have hs8 := (rt_ok hRt hs9).2.2.2
    refine q_aload_n rfl rfl ?_
    refine v_cv rfl rfl rfl rfl (by decide) ⟨⟨rfl, rfl⟩, by decide, rfl⟩ (Nat.le_of_ble_eq_true rfl) (Nat.le_of_ble_eq_true rfl) ?_
    refine q_aload_n rfl rfl ?_
    refine v_gi (z := 4) (v := 0) rfl rfl rfl (by decide) rfl rfl (hs9) ?_
    refine v_if_ne_f (t := 11) rfl (by decide) (by decide) ?_
    refine q_iconst rfl ?_
    refine q_goto (t := 12) rfl (by decide) ?_
    refine v_zret rfl rfl (by decide) ?_
    refine bk_inl ?_
    refine v_if_eq_f (t := 25) rfl (by decide) (by decide) ?_
    refine q_aload_n rfl rfl ?_
    refine q_aload_n rfl rfl ?_
    refine v_cv rfl rfl rfl rfl (by decide) ⟨⟨rfl, rfl⟩, by decide, rfl⟩ (Nat.le_of_ble_eq_true rfl) (Nat.le_of_ble_eq_true rfl) ?_
    refine q_aload_n rfl rfl ?_
    have h_5 : -2147483648 ≤ (F a9) ∧ (F a9) ≤ 2147483647 := by rw [← hF a9]; exact ir_2 hJ a9
    have h_6 := nx_bd (b := F) (e := e1) (a := a9)
    have h_7 : -2147483648 ≤ (F (nx F e1 a9)) ∧ (F (nx F e1 a9)) ≤ 2147483647 := by rw [← hF (nx F e1 a9)]; exact ir_2 hJ (nx F e1 a9)
    have h_8 := nx_n (b := F) (e := e1) (a := a9)
    refine v_cv rfl rfl rfl rfl (by decide) ⟨⟨rfl, rfl⟩, by decide, rfl⟩ (Nat.le_of_ble_eq_true rfl) (Nat.le_of_ble_eq_true rfl) (f_3 (e1 := e1) (a9 := a9) (B := F) (r8 := (nx F e1 a9)) hJ ((hg_e1)) ((hg_a9)) (fun j => hF j) rfl (fun c_9 hI_10 hF_11 hz_12 => ?_))
    refine bk_inl ?_
    refine q_istore_n rfl (by decide) ?_
    refine q_iconst rfl ?_
    refine q_istore_n rfl (by decide) ?_
    refine q_iload_n rfl rfl ?_
    refine q_aload_n rfl rfl ?_
    refine v_sln 1 rfl rfl (by omega) (Nat.le_of_ble_eq_true rfl) (by decide) (by decide) ?_
    refine v_ic_ge_f (t := 55) rfl (by decide) (by decide) ?_
    refine q_iload_n rfl rfl ?_
    refine q_aload_n rfl rfl ?_
    have kn_13 : Hid (c_9 1 1 = e1) := (hF_11 1 1 (fun h => absurd h.2 (ni rfl))).trans (hg_e1)
    refine v_gi (z := 1) (v := e1) rfl rfl rfl (by decide) rfl rfl (hid kn_13) ?_
    by_cases h_14 : (nx F e1 a9) ≥ e1
    · refine v_ic_ge_t (t := 55) rfl (by decide) (by omega) ?_
      refine q_iconst rfl ?_
      refine q_iret rfl rfl ?_
      refine bk_inl ?_
      refine q_iconst rfl ?_
      refine v_ic_ne_f (t := 25) rfl (by decide) (by decide) ?_
      refine q_aload_n rfl rfl ?_
      refine q_iconst rfl ?_
      refine q_aload_n rfl rfl ?_
      refine v_gi (z := 2) (v := (nx F e1 a9)) rfl rfl rfl (by decide) rfl rfl (hz_12) ?_
      refine v_cv rfl rfl rfl rfl (by decide) ⟨⟨rfl, rfl⟩, by decide, rfl⟩ (Nat.le_of_ble_eq_true rfl) (Nat.le_of_ble_eq_true rfl) ?_
      refine q_aload_n rfl rfl ?_
      have kn_15 : Hid (c_9 1 4 = 0) := (hF_11 1 4 (fun h => absurd h.2 (ni rfl))).trans (hs9)
      refine v_gi (z := 4) (v := 0) rfl rfl rfl (by decide) rfl rfl (hid kn_15) ?_
      refine v_if_ne_f (t := 17) rfl (by decide) (by decide) ?_
      refine q_aload_n rfl rfl ?_
      refine q_iload_n rfl rfl ?_
      refine v_pi (z := 4) rfl rfl rfl (by decide) rfl rfl rfl (by decide) ?_
      refine q_aload_n rfl rfl ?_
      refine q_iload_n rfl rfl ?_
      refine v_pi (z := 5) rfl rfl rfl (by decide) rfl rfl rfl (by decide) ?_
      refine q_vret rfl rfl ?_
      refine bk_inl ?_
      refine q_vret rfl rfl ?_
      have hI_16 := iw_1_4 (v := 1) hI_10 ⟨by decide, by decide⟩
      have hI_17 := iw_1_5 (v := (nx F e1 a9)) hI_16 ⟨by omega, by omega⟩
      intro hE_18
      have hW : Wd P Q P P (up (up c_9 1 4 1) 1 5 (nx F e1 a9)) = Wd P Q P P m9 := (Prod.mk.inj (Prod.mk.inj hE_18).2).1
      have h_19 := ir_1_4 hJ9
      have h_20 : m9 1 4 = 1 := wd_fv (z := 4) 4 rfl hW rfl rfl rfl rfl (by decide) ((up_n (by decide)).trans (up_e rfl)) ⟨by omega, by omega⟩ ⟨by omega, by omega⟩
      have h_21 := ir_1_2 hJ9
      have h_22 : m9 1 2 = (nx F e1 a9) := wd_fv (z := 2) 2 rfl hW rfl rfl rfl rfl (by decide) ((up_n (by decide)).trans ((up_n (by decide)).trans (hz_12))) ⟨by omega, by omega⟩ ⟨by omega, by omega⟩
      have h_23 := ir_1_5 hJ9
      have h_24 : m9 1 5 = (nx F e1 a9) := wd_fv (z := 5) 5 rfl hW rfl rfl rfl rfl (by decide) (up_e rfl) ⟨by omega, by omega⟩ ⟨by omega, by omega⟩
      refine q_aload_n rfl rfl ?_
      refine v_cv rfl rfl rfl rfl (by decide) ⟨⟨rfl, rfl⟩, by decide, rfl⟩ (Nat.le_of_ble_eq_true rfl) (Nat.le_of_ble_eq_true rfl) ?_
      refine q_aload_n rfl rfl ?_
      have h_25 := ir_41_5 hI
      have h_26 := ir_1_5 hJ
      have h_27 := ir_41_4 hI
      have h_28 := ir_41_6 hI
      have h_29 := rt_ok hRt (by omega)
      have hro_hRt := rt_ok hRt (by omega)
      refine v_gi (z := 5) (v := (-1)) rfl rfl rfl (by decide) rfl rfl hro_hRt.2.1 ?_
      refine q_iconst rfl ?_
      refine v_ic_ne_f (t := 12) rfl (by decide) (by decide) ?_
      refine q_iconst rfl ?_
      refine q_goto (t := 13) rfl (by decide) ?_
      refine v_zret rfl rfl (by decide) ?_
      refine bk_inl ?_
      refine v_if_eq_f (t := 24) rfl (by decide) (by decide) ?_
      refine q_aload_n rfl rfl ?_
      have h_30 : -2147483648 ≤ (H (nx F e1 a9)) ∧ (H (nx F e1 a9)) ≤ 2147483647 := by rw [← hH (nx F e1 a9)]; exact ir_43 hI (nx F e1 a9)
      have h_31 : (nx F e1 a9) < 600 → (H (nx F e1 a9)) = (F (nx F e1 a9)) % 256 ∧ -128 ≤ (F (nx F e1 a9)) ∧ (F (nx F e1 a9)) ≤ 127 := fun q => hU (nx F e1 a9) (by omega) q
      have h_32 := hb_or (b := H) (e := e1) (r := (nx F e1 a9))
      have h_33 := hb_bd (b := H) (e := e1) (r := (nx F e1 a9)) (lo := -2147483648) (hi := 2147483647) ⟨by omega, by omega⟩ (by decide)
      refine v_cv rfl rfl rfl rfl (by decide) ⟨⟨rfl, rfl⟩, by decide, rfl⟩ (Nat.le_of_ble_eq_true rfl) (Nat.le_of_ble_eq_true rfl) (f_154 (e1 := e1) (a9 := a9) (B := H) (r8 := (nx F e1 a9)) (r := (hb H e1 (nx F e1 a9))) hI ((hr_e1)) (((hro_hRt.2.2.1).trans ((hg_a9)))) (fun j => hH j) ((nx_tr hU (by omega) (by omega)).trans (rfl)) rfl (fun c_34 hI_35 hF_36 h_37 => ?_))
      refine bk_inl ?_
      refine q_iload_n rfl rfl ?_
      refine v_ic_eq_f (t := 24) rfl (by decide) (by omega) ?_
      refine q_aload_n rfl rfl ?_
      refine q_iconst rfl ?_
      refine q_aload_n rfl rfl ?_
      refine v_gi (z := 4) (v := (nx F e1 a9)) rfl rfl rfl (by decide) rfl rfl (h_37) ?_
      refine v_cv rfl rfl rfl rfl (by decide) ⟨⟨rfl, rfl⟩, by decide, rfl⟩ (Nat.le_of_ble_eq_true rfl) (Nat.le_of_ble_eq_true rfl) ?_
      refine q_aload_n rfl rfl ?_
      have kn_38 : Hid (c_34 41 5 = (-1)) := (hF_36 41 5 (fun h => absurd h.2 (ni rfl))).trans hro_hRt.2.1
      refine v_gi (z := 5) (v := (-1)) rfl rfl rfl (by decide) rfl rfl (hid kn_38) ?_
      refine q_iconst rfl ?_
      refine v_ic_eq_t (t := 9) rfl (by decide) (by decide) ?_
      refine q_aload_n rfl rfl ?_
      refine q_iload_n rfl rfl ?_
      refine v_pi (z := 5) rfl rfl rfl (by decide) rfl rfl rfl (by decide) ?_
      refine q_aload_n rfl rfl ?_
      refine q_iload_n rfl rfl ?_
      refine v_pi (z := 6) rfl rfl rfl (by decide) rfl rfl rfl (by decide) ?_
      refine q_vret rfl rfl ?_
      refine bk_inl ?_
      refine q_aload_n rfl rfl ?_
      refine v_cv rfl rfl rfl rfl (by decide) ⟨⟨rfl, rfl⟩, by decide, rfl⟩ (Nat.le_of_ble_eq_true rfl) (Nat.le_of_ble_eq_true rfl) ?_
      refine q_aload_n rfl rfl ?_
      refine v_gi (z := 5) (v := (nx F e1 a9)) rfl rfl rfl (by decide) rfl rfl ((up_n (by decide)).trans (up_e rfl)) ?_
      refine q_iconst rfl ?_
      refine v_ic_ne_t (t := 12) rfl (by decide) (by omega) ?_
      refine q_iconst rfl ?_
      refine v_zret rfl rfl (by decide) ?_
      refine bk_inl ?_
      refine v_if_eq_t (t := 41) rfl (by decide) (by decide) ?_
      refine q_vret rfl rfl ?_
      have hI_39 := iw_41_5 (v := (nx F e1 a9)) hI_35 ⟨by omega, by omega⟩
      have hI_40 := iw_41_6 (v := 1) hI_39 ⟨by decide, by decide⟩
      have h_41 : (up (up c_34 41 5 (nx F e1 a9)) 41 6 1) 41 5 = (nx F e1 a9) := ((up_n (by decide)).trans (up_e rfl))
      have h_42 : (up (up c_34 41 5 (nx F e1 a9)) 41 6 1) 41 4 = (nx F e1 a9) := ((up_n (by decide)).trans ((up_n (by decide)).trans (h_37)))
      have h_43 : (up (up c_34 41 5 (nx F e1 a9)) 41 6 1) 41 6 = 1 := (up_e rfl)
      exact K (up (up c_34 41 5 (nx F e1 a9)) 41 6 1)  hI_40 (fun a j hm => (up_b (Decidable.or_iff_not_imp_left.mpr (fun h1 h2 => hm (Or.inr (Or.inr ⟨Decidable.not_not.mp h1, h2⟩))))).trans ((up_b (Decidable.or_iff_not_imp_left.mpr (fun h1 h2 => hm (Or.inr (Or.inl ⟨Decidable.not_not.mp h1, h2⟩))))).trans (hF_36 a j (fun h => hm (Or.inl h))))) (by unfold Rt; omega) (by omega) (by omega)
    · refine v_ic_ge_f (t := 55) rfl (by decide) (by omega) ?_
      refine q_aload_n rfl rfl ?_
      refine v_gr (t := 2) rfl rfl rfl (by decide) rfl ?_
      refine q_iload_n rfl rfl ?_
      have kn_44 : Hid (c_9 2 (nx F e1 a9) = (F (nx F e1 a9))) := (hF_11 2 (nx F e1 a9) (fun h => absurd h.1 (nn rfl))).trans (hF (nx F e1 a9))
      refine v_ba (v := (F (nx F e1 a9))) rfl rfl (by decide) (by decide) (by omega) (hid kn_44) ?_
      refine q_aload_n rfl rfl ?_
      refine q_iload_n rfl rfl ?_
      refine v_sch 93 rfl rfl (by omega) (Nat.le_of_ble_eq_true rfl) (by decide) (by decide) (by decide) ?_
      by_cases h_45 : (F (nx F e1 a9)) ≠ 93
      · refine v_ic_ne_t (t := 49) rfl (by decide) (by omega) ?_
        refine v_iinc (v := 1) rfl rfl (by decide) (by decide) ?_
        refine q_goto (t := 7) rfl (by decide) ?_
        refine q_iload_n rfl rfl ?_
        refine q_aload_n rfl rfl ?_
        refine v_sln 1 rfl rfl (by omega) (Nat.le_of_ble_eq_true rfl) (by decide) (by decide) ?_
        refine v_ic_ge_t (t := 55) rfl (by decide) (by decide) ?_
        refine q_iconst rfl ?_
        refine q_iret rfl rfl ?_
        refine bk_inl ?_
        refine q_iconst rfl ?_
        refine v_ic_ne_f (t := 25) rfl (by decide) (by decide) ?_
        refine q_aload_n rfl rfl ?_
        refine q_iconst rfl ?_
        refine q_aload_n rfl rfl ?_
        refine v_gi (z := 2) (v := (nx F e1 a9)) rfl rfl rfl (by decide) rfl rfl (hz_12) ?_
        refine v_cv rfl rfl rfl rfl (by decide) ⟨⟨rfl, rfl⟩, by decide, rfl⟩ (Nat.le_of_ble_eq_true rfl) (Nat.le_of_ble_eq_true rfl) ?_
        refine q_aload_n rfl rfl ?_
        have kn_46 : Hid (c_9 1 4 = 0) := (hF_11 1 4 (fun h => absurd h.2 (ni rfl))).trans (hs9)
        refine v_gi (z := 4) (v := 0) rfl rfl rfl (by decide) rfl rfl (hid kn_46) ?_
        refine v_if_ne_f (t := 17) rfl (by decide) (by decide) ?_
        refine q_aload_n rfl rfl ?_
        refine q_iload_n rfl rfl ?_
        refine v_pi (z := 4) rfl rfl rfl (by decide) rfl rfl rfl (by decide) ?_
        refine q_aload_n rfl rfl ?_
        refine q_iload_n rfl rfl ?_
        refine v_pi (z := 5) rfl rfl rfl (by decide) rfl rfl rfl (by decide) ?_
        refine q_vret rfl rfl ?_
        refine bk_inl ?_
        refine q_vret rfl rfl ?_
        have hI_47 := iw_1_4 (v := 1) hI_10 ⟨by decide, by decide⟩
        have hI_48 := iw_1_5 (v := (nx F e1 a9)) hI_47 ⟨by omega, by omega⟩
        intro hE_49
        have hW : Wd P Q P P (up (up c_9 1 4 1) 1 5 (nx F e1 a9)) = Wd P Q P P m9 := (Prod.mk.inj (Prod.mk.inj hE_49).2).1
        have h_50 := ir_1_4 hJ9
        have h_51 : m9 1 4 = 1 := wd_fv (z := 4) 4 rfl hW rfl rfl rfl rfl (by decide) ((up_n (by decide)).trans (up_e rfl)) ⟨by omega, by omega⟩ ⟨by omega, by omega⟩
        have h_52 := ir_1_2 hJ9
        have h_53 : m9 1 2 = (nx F e1 a9) := wd_fv (z := 2) 2 rfl hW rfl rfl rfl rfl (by decide) ((up_n (by decide)).trans ((up_n (by decide)).trans (hz_12))) ⟨by omega, by omega⟩ ⟨by omega, by omega⟩
        have h_54 := ir_1_5 hJ9
        have h_55 : m9 1 5 = (nx F e1 a9) := wd_fv (z := 5) 5 rfl hW rfl rfl rfl rfl (by decide) (up_e rfl) ⟨by omega, by omega⟩ ⟨by omega, by omega⟩
        refine q_aload_n rfl rfl ?_
        refine v_cv rfl rfl rfl rfl (by decide) ⟨⟨rfl, rfl⟩, by decide, rfl⟩ (Nat.le_of_ble_eq_true rfl) (Nat.le_of_ble_eq_true rfl) ?_
        refine q_aload_n rfl rfl ?_
        have h_56 := ir_41_5 hI
        have h_57 := ir_1_5 hJ
        have h_58 := ir_41_4 hI
        have h_59 := ir_41_6 hI
        have h_60 := rt_ok hRt (by omega)
        have hro_hRt := rt_ok hRt (by omega)
        refine v_gi (z := 5) (v := (-1)) rfl rfl rfl (by decide) rfl rfl hro_hRt.2.1 ?_
        refine q_iconst rfl ?_
        refine v_ic_ne_f (t := 12) rfl (by decide) (by decide) ?_
        refine q_iconst rfl ?_
        refine q_goto (t := 13) rfl (by decide) ?_
        refine v_zret rfl rfl (by decide) ?_
        refine bk_inl ?_
        refine v_if_eq_f (t := 24) rfl (by decide) (by decide) ?_
        refine q_aload_n rfl rfl ?_
        have h_61 : -2147483648 ≤ (H (nx F e1 a9)) ∧ (H (nx F e1 a9)) ≤ 2147483647 := by rw [← hH (nx F e1 a9)]; exact ir_43 hI (nx F e1 a9)
        have h_62 := hU (nx F e1 a9) (by omega) (by omega)
        have h_63 := hb_or (b := H) (e := e1) (r := (nx F e1 a9))
        have h_64 := hb_bd (b := H) (e := e1) (r := (nx F e1 a9)) (lo := -2147483648) (hi := 2147483647) ⟨by omega, by omega⟩ (by decide)
        refine v_cv rfl rfl rfl rfl (by decide) ⟨⟨rfl, rfl⟩, by decide, rfl⟩ (Nat.le_of_ble_eq_true rfl) (Nat.le_of_ble_eq_true rfl) (f_154 (e1 := e1) (a9 := a9) (B := H) (r8 := (nx F e1 a9)) (r := (hb H e1 (nx F e1 a9))) hI ((hr_e1)) (((hro_hRt.2.2.1).trans ((hg_a9)))) (fun j => hH j) ((nx_tr hU (by omega) (by omega)).trans (rfl)) rfl (fun c_65 hI_66 hF_67 h_68 => ?_))
        refine bk_inl ?_
        refine q_iload_n rfl rfl ?_
        refine v_ic_eq_f (t := 24) rfl (by decide) (by omega) ?_
        refine q_aload_n rfl rfl ?_
        refine q_iconst rfl ?_
        refine q_aload_n rfl rfl ?_
        refine v_gi (z := 4) (v := (nx F e1 a9)) rfl rfl rfl (by decide) rfl rfl (h_68) ?_
        refine v_cv rfl rfl rfl rfl (by decide) ⟨⟨rfl, rfl⟩, by decide, rfl⟩ (Nat.le_of_ble_eq_true rfl) (Nat.le_of_ble_eq_true rfl) ?_
        refine q_aload_n rfl rfl ?_
        have kn_69 : Hid (c_65 41 5 = (-1)) := (hF_67 41 5 (fun h => absurd h.2 (ni rfl))).trans hro_hRt.2.1
        refine v_gi (z := 5) (v := (-1)) rfl rfl rfl (by decide) rfl rfl (hid kn_69) ?_
        refine q_iconst rfl ?_
        refine v_ic_eq_t (t := 9) rfl (by decide) (by decide) ?_
        refine q_aload_n rfl rfl ?_
        refine q_iload_n rfl rfl ?_
        refine v_pi (z := 5) rfl rfl rfl (by decide) rfl rfl rfl (by decide) ?_
        refine q_aload_n rfl rfl ?_
        refine q_iload_n rfl rfl ?_
        refine v_pi (z := 6) rfl rfl rfl (by decide) rfl rfl rfl (by decide) ?_
        refine q_vret rfl rfl ?_
        refine bk_inl ?_
        refine q_aload_n rfl rfl ?_
        refine v_cv rfl rfl rfl rfl (by decide) ⟨⟨rfl, rfl⟩, by decide, rfl⟩ (Nat.le_of_ble_eq_true rfl) (Nat.le_of_ble_eq_true rfl) ?_
        refine q_aload_n rfl rfl ?_
        refine v_gi (z := 5) (v := (nx F e1 a9)) rfl rfl rfl (by decide) rfl rfl ((up_n (by decide)).trans (up_e rfl)) ?_
        refine q_iconst rfl ?_
        refine v_ic_ne_t (t := 12) rfl (by decide) (by omega) ?_
        refine q_iconst rfl ?_
        refine v_zret rfl rfl (by decide) ?_
        refine bk_inl ?_
        refine v_if_eq_t (t := 41) rfl (by decide) (by decide) ?_
        refine q_vret rfl rfl ?_
        have hI_70 := iw_41_5 (v := (nx F e1 a9)) hI_66 ⟨by omega, by omega⟩
        have hI_71 := iw_41_6 (v := 1) hI_70 ⟨by decide, by decide⟩
        have h_72 : (up (up c_65 41 5 (nx F e1 a9)) 41 6 1) 41 5 = (nx F e1 a9) := ((up_n (by decide)).trans (up_e rfl))
        have h_73 : (up (up c_65 41 5 (nx F e1 a9)) 41 6 1) 41 4 = (nx F e1 a9) := ((up_n (by decide)).trans ((up_n (by decide)).trans (h_68)))
        have h_74 : (up (up c_65 41 5 (nx F e1 a9)) 41 6 1) 41 6 = 1 := (up_e rfl)
        exact K (up (up c_65 41 5 (nx F e1 a9)) 41 6 1)  hI_71 (fun a j hm => (up_b (Decidable.or_iff_not_imp_left.mpr (fun h1 h2 => hm (Or.inr (Or.inr ⟨Decidable.not_not.mp h1, h2⟩))))).trans ((up_b (Decidable.or_iff_not_imp_left.mpr (fun h1 h2 => hm (Or.inr (Or.inl ⟨Decidable.not_not.mp h1, h2⟩))))).trans (hF_67 a j (fun h => hm (Or.inl h))))) (by unfold Rt; omega) (by omega) (by omega)
      · refine v_ic_ne_f (t := 49) rfl (by decide) (by omega) ?_
        refine q_aload_n rfl rfl ?_
        refine q_dup rfl rfl ?_
        refine v_gi (z := 2) (v := (nx F e1 a9)) rfl rfl rfl (by decide) rfl rfl (hz_12) ?_
        refine q_iconst rfl ?_
        refine v_iadd (v := (nx F e1 a9) + 1) rfl (by omega) ?_
        refine v_pi (z := 2) rfl rfl rfl (by decide) rfl rfl rfl (by decide) ?_
        refine q_iload_n rfl rfl ?_
        refine q_iret rfl rfl ?_
        refine bk_inl ?_
        refine q_iconst rfl ?_
        refine v_ic_ne_t (t := 25) rfl (by decide) (by decide) ?_
        refine q_vret rfl rfl ?_
        have hI_75 := iw_1_2 (v := (nx F e1 a9) + 1) hI_10 ⟨by omega, by omega⟩
        intro hE_76
        have hW : Wd P Q P P (up c_9 1 2 ((nx F e1 a9) + 1)) = Wd P Q P P m9 := (Prod.mk.inj (Prod.mk.inj hE_76).2).1
        have kn_77 : Hid (c_9 1 4 = 0) := (hF_11 1 4 (fun h => absurd h.2 (ni rfl))).trans (hs9)
        have h_78 := ir_1_4 hJ9
        have h_79 : m9 1 4 = 0 := wd_fv (z := 4) 4 rfl hW rfl rfl rfl rfl (by decide) ((up_n (by decide)).trans (hid kn_77)) ⟨by omega, by omega⟩ ⟨by omega, by omega⟩
        have h_80 := ir_1_2 hJ9
        have h_81 : m9 1 2 = (nx F e1 a9) + 1 := wd_fv (z := 2) 2 rfl hW rfl rfl rfl rfl (by decide) (up_e rfl) ⟨by omega, by omega⟩ ⟨by omega, by omega⟩
        have kn_82 : Hid (c_9 1 5 = (-1)) := (hF_11 1 5 (fun h => absurd h.2 (ni rfl))).trans (hs8)
        have h_83 := ir_1_5 hJ9
        have h_84 : m9 1 5 = (-1) := wd_fv (z := 5) 5 rfl hW rfl rfl rfl rfl (by decide) ((up_n (by decide)).trans (hid kn_82)) ⟨by omega, by omega⟩ ⟨by omega, by omega⟩
        refine q_aload_n rfl rfl ?_
        refine v_cv rfl rfl rfl rfl (by decide) ⟨⟨rfl, rfl⟩, by decide, rfl⟩ (Nat.le_of_ble_eq_true rfl) (Nat.le_of_ble_eq_true rfl) ?_
        refine q_aload_n rfl rfl ?_
        have h_85 := ir_41_5 hI
        have h_86 := ir_1_5 hJ
        have h_87 := ir_41_4 hI
        have h_88 := ir_41_6 hI
        have h_89 := rt_ok hRt (by omega)
        have hro_hRt := rt_ok hRt (by omega)
        refine v_gi (z := 5) (v := (-1)) rfl rfl rfl (by decide) rfl rfl hro_hRt.2.1 ?_
        refine q_iconst rfl ?_
        refine v_ic_ne_f (t := 12) rfl (by decide) (by decide) ?_
        refine q_iconst rfl ?_
        refine q_goto (t := 13) rfl (by decide) ?_
        refine v_zret rfl rfl (by decide) ?_
        refine bk_inl ?_
        refine v_if_eq_f (t := 24) rfl (by decide) (by decide) ?_
        refine q_aload_n rfl rfl ?_
        have h_90 : -2147483648 ≤ (H (nx F e1 a9)) ∧ (H (nx F e1 a9)) ≤ 2147483647 := by rw [← hH (nx F e1 a9)]; exact ir_43 hI (nx F e1 a9)
        have h_91 := hU (nx F e1 a9) (by omega) (by omega)
        have h_92 := hb_or (b := H) (e := e1) (r := (nx F e1 a9))
        have h_93 := hb_bd (b := H) (e := e1) (r := (nx F e1 a9)) (lo := -2147483648) (hi := 2147483647) ⟨by omega, by omega⟩ (by decide)
        refine v_cv rfl rfl rfl rfl (by decide) ⟨⟨rfl, rfl⟩, by decide, rfl⟩ (Nat.le_of_ble_eq_true rfl) (Nat.le_of_ble_eq_true rfl) (f_154 (e1 := e1) (a9 := a9) (B := H) (r8 := (nx F e1 a9)) (r := (hb H e1 (nx F e1 a9))) hI ((hr_e1)) (((hro_hRt.2.2.1).trans ((hg_a9)))) (fun j => hH j) ((nx_tr hU (by omega) (by omega)).trans (rfl)) rfl (fun c_94 hI_95 hF_96 h_97 => ?_))
        refine bk_inl ?_
        refine q_iload_n rfl rfl ?_
        refine v_ic_eq_t (t := 24) rfl (by decide) (by omega) ?_
        refine q_aload_n rfl rfl ?_
        refine v_cv rfl rfl rfl rfl (by decide) ⟨⟨rfl, rfl⟩, by decide, rfl⟩ (Nat.le_of_ble_eq_true rfl) (Nat.le_of_ble_eq_true rfl) ?_
        refine q_aload_n rfl rfl ?_
        have kn_98 : Hid (c_94 41 5 = (-1)) := (hF_96 41 5 (fun h => absurd h.2 (ni rfl))).trans hro_hRt.2.1
        refine v_gi (z := 5) (v := (-1)) rfl rfl rfl (by decide) rfl rfl (hid kn_98) ?_
        refine q_iconst rfl ?_
        refine v_ic_ne_f (t := 12) rfl (by decide) (by decide) ?_
        refine q_iconst rfl ?_
        refine q_goto (t := 13) rfl (by decide) ?_
        refine v_zret rfl rfl (by decide) ?_
        refine bk_inl ?_
        refine v_if_eq_f (t := 41) rfl (by decide) (by decide) ?_
        refine q_aload_n rfl rfl ?_
        refine q_dup rfl rfl ?_
        refine v_gi (z := 4) (v := (nx F e1 a9)) rfl rfl rfl (by decide) rfl rfl (h_97) ?_
        refine q_iconst rfl ?_
        refine v_iadd (v := (nx F e1 a9) + 1) rfl (by omega) ?_
        refine v_pi (z := 4) rfl rfl rfl (by decide) rfl rfl rfl (by decide) ?_
        refine q_vret rfl rfl ?_
        have hI_99 := iw_41_4 (v := (nx F e1 a9) + 1) hI_95 ⟨by omega, by omega⟩
        have h_100 : (up c_94 41 4 ((nx F e1 a9) + 1)) 41 5 = (-1) := ((up_n (by decide)).trans (hid kn_98))
        have h_101 : (up c_94 41 4 ((nx F e1 a9) + 1)) 41 4 = (nx F e1 a9) + 1 := (up_e rfl)
        have kn_102 : Hid (c_94 41 6 = c 41 6) := hF_96 41 6 (fun h => absurd h.2 (ni rfl))
        have h_103 : (up c_94 41 4 ((nx F e1 a9) + 1)) 41 6 = c 41 6 := ((up_n (by decide)).trans (hid kn_102))
        exact K (up c_94 41 4 ((nx F e1 a9) + 1))  hI_99 (fun a j hm => (up_b (Decidable.or_iff_not_imp_left.mpr (fun h1 h2 => hm (Or.inl ⟨Decidable.not_not.mp h1, h2⟩)))).trans (hF_96 a j (fun h => hm (Or.inl h)))) (by unfold Rt; omega) (by omega) (by omega)
  · skip
    refine q_aload_n rfl rfl ?_
    refine v_cv rfl rfl rfl rfl (by decide) ⟨⟨rfl, rfl⟩, by decide, rfl⟩ (Nat.le_of_ble_eq_true rfl) (Nat.le_of_ble_eq_true rfl) ?_
    refine q_aload_n rfl rfl ?_
    refine v_gi (z := 4) (v := f0) rfl rfl rfl (by decide) rfl rfl (hg_f0) ?_
    refine v_if_ne_t (t := 11) rfl (by decide) (by omega) ?_
    refine q_iconst rfl ?_
    refine v_zret rfl rfl (by decide) ?_
    refine bk_inl ?_
    refine v_if_eq_t (t := 25) rfl (by decide) (by decide) ?_
    refine q_vret rfl rfl ?_
    intro hE_104
    have hW : Wd P Q P P m = Wd P Q P P m9 := (Prod.mk.inj (Prod.mk.inj hE_104).2).1
    have h_105 := ir_1_4 hJ9
    have h_106 : m9 1 4 = f0 := wd_fv (z := 4) 4 rfl hW rfl rfl rfl rfl (by decide) (hg_f0) ⟨by omega, by omega⟩ ⟨by omega, by omega⟩
    have h_107 := ir_1_2 hJ9
    have h_108 : m9 1 2 = a9 := wd_fv (z := 2) 2 rfl hW rfl rfl rfl rfl (by decide) (hg_a9) ⟨by omega, by omega⟩ ⟨by omega, by omega⟩
    have h_109 := ir_1_5 hJ
    have h_110 := ir_1_5 hJ9
    have h_111 : m9 1 5 = m 1 5 := wd_fv (z := 5) 5 rfl hW rfl rfl rfl rfl (by decide) rfl ⟨by omega, by omega⟩ ⟨by omega, by omega⟩
    refine q_aload_n rfl rfl ?_
    refine v_cv rfl rfl rfl rfl (by decide) ⟨⟨rfl, rfl⟩, by decide, rfl⟩ (Nat.le_of_ble_eq_true rfl) (Nat.le_of_ble_eq_true rfl) ?_
    refine q_aload_n rfl rfl ?_
    have h_112 := ir_41_5 hI
    have h_113 := ir_41_4 hI
    have h_114 := ir_41_6 hI
    have h_115 := rt_bad hRt (by omega)
    have hrb_hRt := rt_bad hRt (by omega)
    refine v_gi (z := 5) (v := m 1 5) rfl rfl rfl (by decide) rfl rfl hrb_hRt.2.1 ?_
    refine q_iconst rfl ?_
    refine v_ic_ne_t (t := 12) rfl (by decide) (by omega) ?_
    refine q_iconst rfl ?_
    refine v_zret rfl rfl (by decide) ?_
    refine bk_inl ?_
    refine v_if_eq_t (t := 24) rfl (by decide) (by decide) ?_
    refine q_aload_n rfl rfl ?_
    refine v_cv rfl rfl rfl rfl (by decide) ⟨⟨rfl, rfl⟩, by decide, rfl⟩ (Nat.le_of_ble_eq_true rfl) (Nat.le_of_ble_eq_true rfl) ?_
    refine q_aload_n rfl rfl ?_
    refine v_gi (z := 5) (v := m 1 5) rfl rfl rfl (by decide) rfl rfl hrb_hRt.2.1 ?_
    refine q_iconst rfl ?_
    refine v_ic_ne_t (t := 12) rfl (by decide) (by omega) ?_
    refine q_iconst rfl ?_
    refine v_zret rfl rfl (by decide) ?_
    refine bk_inl ?_
    refine v_if_eq_t (t := 41) rfl (by decide) (by decide) ?_
    refine q_vret rfl rfl ?_
    have h_116 : c 41 5 = m 1 5 := hrb_hRt.2.1
    have h_117 : c 41 6 = f0 := ((hrb_hRt.2.2.2).trans ((hg_f0)))
    exact K c  hI (fun a j hm => rfl) (by unfold Rt; omega) (by omega) (by omega)

set_option maxRecDepth 100000 in
set_option maxHeartbeats 4000000 in
theorem L_11_13 {sc : List Int32} {e eg : Int} {d dh u ug P Q P2 Q2 : Nat} {c m m9 : ME} {e1 a9 f0 : Int} {F H : Int → Int} {Z : AR → Prop} (hI : Iv u e P2 Q2 c) (hJ : Iv ug eg P Q m) (hJ9 : Iv ug eg P Q m9) (hg_e1 : m 1 1 = e1) (hr_e1 : c 41 3 = e1) (hg_a9 : m 1 2 = a9) (hg_f0 : m 1 4 = f0) (hF : ∀ j : Int, m 2 j = F j) (hH : ∀ j : Int, c 43 j = H j) (hU : Ub F H) (hRt : Rt m c) (hG : Wp sc (dh + 14) 11 0 [(0, .ref 1), (1, .ref (a_SB + 13))] [] (Wd P Q P P m) 0 0 (fun q => q = (.inl (none), Wd P Q P P m9, 0, 0))) (K : ∀ (c2 : ME), Iv u e P2 Q2 c2 → (∀ (a : Nat) (j : Int), ¬ ((a = 41 ∧ j = 4) ∨ (a = 41 ∧ j = 5) ∨ (a = 41 ∧ j = 6)) → c2 a j = c a j) → (Rt m9 c2) → ((m9 1 4 < 0) ∨ (m9 1 4 > 0) ∨ (m9 1 2 > a9 ∧ m9 1 2 ≤ e1)) → ((m9 1 4 < 0) ∨ (m9 1 4 > 0) ∨ (f0 = 0)) → Z (.inl (none), Wd P2 Q2 P2 P2 c2, 0, 0)) : Wp sc (d + 14) 161 0 [(0, .ref 41), (1, vi 59)] [] (Wd P2 Q2 P2 P2 c) 0 0 Z := by
  have hP := iv_P hJ
  have hQ := iv_Q hJ
  have h_1 := ir_1_1 hJ
  have h_2 := ir_41_3 hI
  have h_3 := ir_1_2 hJ
  have h_4 := ir_1_4 hJ
  refine gh hG ?_
  by_cases hs9 : m 1 4 = 0
  · skip
    have hs8 := (rt_ok hRt hs9).2.2.2
    refine q_aload_n rfl rfl ?_
    refine v_cv rfl rfl rfl rfl (by decide) ⟨⟨rfl, rfl⟩, by decide, rfl⟩ (Nat.le_of_ble_eq_true rfl) (Nat.le_of_ble_eq_true rfl) ?_
    refine q_aload_n rfl rfl ?_
    refine v_gi (z := 4) (v := 0) rfl rfl rfl (by decide) rfl rfl (hs9) ?_
    refine v_if_ne_f (t := 11) rfl (by decide) (by decide) ?_
    refine q_iconst rfl ?_
    refine q_goto (t := 12) rfl (by decide) ?_
    refine v_zret rfl rfl (by decide) ?_
    refine bk_inl ?_
    refine v_if_eq_f (t := 25) rfl (by decide) (by decide) ?_
    refine q_aload_n rfl rfl ?_
    refine q_aload_n rfl rfl ?_
    refine v_cv rfl rfl rfl rfl (by decide) ⟨⟨rfl, rfl⟩, by decide, rfl⟩ (Nat.le_of_ble_eq_true rfl) (Nat.le_of_ble_eq_true rfl) ?_
    refine q_aload_n rfl rfl ?_
    have h_5 : -2147483648 ≤ (F a9) ∧ (F a9) ≤ 2147483647 := by rw [← hF a9]; exact ir_2 hJ a9
    have h_6 := nx_bd (b := F) (e := e1) (a := a9)
    have h_7 : -2147483648 ≤ (F (nx F e1 a9)) ∧ (F (nx F e1 a9)) ≤ 2147483647 := by rw [← hF (nx F e1 a9)]; exact ir_2 hJ (nx F e1 a9)
    have h_8 := nx_n (b := F) (e := e1) (a := a9)
    refine v_cv rfl rfl rfl rfl (by decide) ⟨⟨rfl, rfl⟩, by decide, rfl⟩ (Nat.le_of_ble_eq_true rfl) (Nat.le_of_ble_eq_true rfl) (f_3 (e1 := e1) (a9 := a9) (B := F) (r8 := (nx F e1 a9)) hJ ((hg_e1)) ((hg_a9)) (fun j => hF j) rfl (fun c_9 hI_10 hF_11 hz_12 => ?_))
    refine bk_inl ?_
    refine q_istore_n rfl (by decide) ?_
    refine q_iconst rfl ?_
    refine q_istore_n rfl (by decide) ?_
    refine q_iload_n rfl rfl ?_
    refine q_aload_n rfl rfl ?_
    refine v_sln 1 rfl rfl (by omega) (Nat.le_of_ble_eq_true rfl) (by decide) (by decide) ?_
    refine v_ic_ge_f (t := 55) rfl (by decide) (by decide) ?_
    refine q_iload_n rfl rfl ?_
    refine q_aload_n rfl rfl ?_
    have kn_13 : Hid (c_9 1 1 = e1) := (hF_11 1 1 (fun h => absurd h.2 (ni rfl))).trans (hg_e1)
    refine v_gi (z := 1) (v := e1) rfl rfl rfl (by decide) rfl rfl (hid kn_13) ?_
    by_cases h_14 : (nx F e1 a9) ≥ e1
    · refine v_ic_ge_t (t := 55) rfl (by decide) (by omega) ?_
      refine q_iconst rfl ?_
      refine q_iret rfl rfl ?_
      refine bk_inl ?_
      refine q_iconst rfl ?_
      refine v_ic_ne_f (t := 25) rfl (by decide) (by decide) ?_
      refine q_aload_n rfl rfl ?_
      refine q_iconst rfl ?_
      refine q_aload_n rfl rfl ?_
      refine v_gi (z := 2) (v := (nx F e1 a9)) rfl rfl rfl (by decide) rfl rfl (hz_12) ?_
      refine v_cv rfl rfl rfl rfl (by decide) ⟨⟨rfl, rfl⟩, by decide, rfl⟩ (Nat.le_of_ble_eq_true rfl) (Nat.le_of_ble_eq_true rfl) ?_
      refine q_aload_n rfl rfl ?_
      have kn_15 : Hid (c_9 1 4 = 0) := (hF_11 1 4 (fun h => absurd h.2 (ni rfl))).trans (hs9)
      refine v_gi (z := 4) (v := 0) rfl rfl rfl (by decide) rfl rfl (hid kn_15) ?_
      refine v_if_ne_f (t := 17) rfl (by decide) (by decide) ?_
      refine q_aload_n rfl rfl ?_
      refine q_iload_n rfl rfl ?_
      refine v_pi (z := 4) rfl rfl rfl (by decide) rfl rfl rfl (by decide) ?_
      refine q_aload_n rfl rfl ?_
      refine q_iload_n rfl rfl ?_
      refine v_pi (z := 5) rfl rfl rfl (by decide) rfl rfl rfl (by decide) ?_
      refine q_vret rfl rfl ?_
      refine bk_inl ?_
      refine q_vret rfl rfl ?_
      have hI_16 := iw_1_4 (v := 1) hI_10 ⟨by decide, by decide⟩
      have hI_17 := iw_1_5 (v := (nx F e1 a9)) hI_16 ⟨by omega, by omega⟩
      intro hE_18
      have hW : Wd P Q P P (up (up c_9 1 4 1) 1 5 (nx F e1 a9)) = Wd P Q P P m9 := (Prod.mk.inj (Prod.mk.inj hE_18).2).1
      have h_19 := ir_1_4 hJ9
      have h_20 : m9 1 4 = 1 := wd_fv (z := 4) 4 rfl hW rfl rfl rfl rfl (by decide) ((up_n (by decide)).trans (up_e rfl)) ⟨by omega, by omega⟩ ⟨by omega, by omega⟩
      have h_21 := ir_1_2 hJ9
      have h_22 : m9 1 2 = (nx F e1 a9) := wd_fv (z := 2) 2 rfl hW rfl rfl rfl rfl (by decide) ((up_n (by decide)).trans ((up_n (by decide)).trans (hz_12))) ⟨by omega, by omega⟩ ⟨by omega, by omega⟩
      have h_23 := ir_1_5 hJ9
      have h_24 : m9 1 5 = (nx F e1 a9) := wd_fv (z := 5) 5 rfl hW rfl rfl rfl rfl (by decide) (up_e rfl) ⟨by omega, by omega⟩ ⟨by omega, by omega⟩
      refine q_aload_n rfl rfl ?_
      refine v_cv rfl rfl rfl rfl (by decide) ⟨⟨rfl, rfl⟩, by decide, rfl⟩ (Nat.le_of_ble_eq_true rfl) (Nat.le_of_ble_eq_true rfl) ?_
      refine q_aload_n rfl rfl ?_
      have h_25 := ir_41_5 hI
      have h_26 := ir_1_5 hJ
      have h_27 := ir_41_4 hI
      have h_28 := ir_41_6 hI
      have h_29 := rt_ok hRt (by omega)
      have hro_hRt := rt_ok hRt (by omega)
      refine v_gi (z := 5) (v := (-1)) rfl rfl rfl (by decide) rfl rfl hro_hRt.2.1 ?_
      refine q_iconst rfl ?_
      refine v_ic_ne_f (t := 12) rfl (by decide) (by decide) ?_
      refine q_iconst rfl ?_
      refine q_goto (t := 13) rfl (by decide) ?_
      refine v_zret rfl rfl (by decide) ?_
      refine bk_inl ?_
      refine v_if_eq_f (t := 24) rfl (by decide) (by decide) ?_
      refine q_aload_n rfl rfl ?_
      have h_30 : -2147483648 ≤ (H (nx F e1 a9)) ∧ (H (nx F e1 a9)) ≤ 2147483647 := by rw [← hH (nx F e1 a9)]; exact ir_43 hI (nx F e1 a9)
      have h_31 : (nx F e1 a9) < 600 → (H (nx F e1 a9)) = (F (nx F e1 a9)) % 256 ∧ -128 ≤ (F (nx F e1 a9)) ∧ (F (nx F e1 a9)) ≤ 127 := fun q => hU (nx F e1 a9) (by omega) q
      have h_32 := hb_or (b := H) (e := e1) (r := (nx F e1 a9))
      have h_33 := hb_bd (b := H) (e := e1) (r := (nx F e1 a9)) (lo := -2147483648) (hi := 2147483647) ⟨by omega, by omega⟩ (by decide)
      refine v_cv rfl rfl rfl rfl (by decide) ⟨⟨rfl, rfl⟩, by decide, rfl⟩ (Nat.le_of_ble_eq_true rfl) (Nat.le_of_ble_eq_true rfl) (f_154 (e1 := e1) (a9 := a9) (B := H) (r8 := (nx F e1 a9)) (r := (hb H e1 (nx F e1 a9))) hI ((hr_e1)) (((hro_hRt.2.2.1).trans ((hg_a9)))) (fun j => hH j) ((nx_tr hU (by omega) (by omega)).trans (rfl)) rfl (fun c_34 hI_35 hF_36 h_37 => ?_))
      refine bk_inl ?_
      refine q_iload_n rfl rfl ?_
      refine v_ic_eq_f (t := 24) rfl (by decide) (by omega) ?_
      refine q_aload_n rfl rfl ?_
      refine q_iconst rfl ?_
      refine q_aload_n rfl rfl ?_
      refine v_gi (z := 4) (v := (nx F e1 a9)) rfl rfl rfl (by decide) rfl rfl (h_37) ?_
      refine v_cv rfl rfl rfl rfl (by decide) ⟨⟨rfl, rfl⟩, by decide, rfl⟩ (Nat.le_of_ble_eq_true rfl) (Nat.le_of_ble_eq_true rfl) ?_
      refine q_aload_n rfl rfl ?_
      have kn_38 : Hid (c_34 41 5 = (-1)) := (hF_36 41 5 (fun h => absurd h.2 (ni rfl))).trans hro_hRt.2.1
      refine v_gi (z := 5) (v := (-1)) rfl rfl rfl (by decide) rfl rfl (hid kn_38) ?_
      refine q_iconst rfl ?_
      refine v_ic_eq_t (t := 9) rfl (by decide) (by decide) ?_
      refine q_aload_n rfl rfl ?_
      refine q_iload_n rfl rfl ?_
      refine v_pi (z := 5) rfl rfl rfl (by decide) rfl rfl rfl (by decide) ?_
      refine q_aload_n rfl rfl ?_
      refine q_iload_n rfl rfl ?_
      refine v_pi (z := 6) rfl rfl rfl (by decide) rfl rfl rfl (by decide) ?_
      refine q_vret rfl rfl ?_
      refine bk_inl ?_
      refine q_aload_n rfl rfl ?_
      refine v_cv rfl rfl rfl rfl (by decide) ⟨⟨rfl, rfl⟩, by decide, rfl⟩ (Nat.le_of_ble_eq_true rfl) (Nat.le_of_ble_eq_true rfl) ?_
      refine q_aload_n rfl rfl ?_
      refine v_gi (z := 5) (v := (nx F e1 a9)) rfl rfl rfl (by decide) rfl rfl ((up_n (by decide)).trans (up_e rfl)) ?_
      refine q_iconst rfl ?_
      refine v_ic_ne_t (t := 12) rfl (by decide) (by omega) ?_
      refine q_iconst rfl ?_
      refine v_zret rfl rfl (by decide) ?_
      refine bk_inl ?_
      refine v_if_eq_t (t := 41) rfl (by decide) (by decide) ?_
      refine q_vret rfl rfl ?_
      have hI_39 := iw_41_5 (v := (nx F e1 a9)) hI_35 ⟨by omega, by omega⟩
      have hI_40 := iw_41_6 (v := 1) hI_39 ⟨by decide, by decide⟩
      have h_41 : (up (up c_34 41 5 (nx F e1 a9)) 41 6 1) 41 5 = (nx F e1 a9) := ((up_n (by decide)).trans (up_e rfl))
      have h_42 : (up (up c_34 41 5 (nx F e1 a9)) 41 6 1) 41 4 = (nx F e1 a9) := ((up_n (by decide)).trans ((up_n (by decide)).trans (h_37)))
      have h_43 : (up (up c_34 41 5 (nx F e1 a9)) 41 6 1) 41 6 = 1 := (up_e rfl)
      exact K (up (up c_34 41 5 (nx F e1 a9)) 41 6 1)  hI_40 (fun a j hm => (up_b (Decidable.or_iff_not_imp_left.mpr (fun h1 h2 => hm (Or.inr (Or.inr ⟨Decidable.not_not.mp h1, h2⟩))))).trans ((up_b (Decidable.or_iff_not_imp_left.mpr (fun h1 h2 => hm (Or.inr (Or.inl ⟨Decidable.not_not.mp h1, h2⟩))))).trans (hF_36 a j (fun h => hm (Or.inl h))))) (by unfold Rt; omega) (by omega) (by omega)
    · refine v_ic_ge_f (t := 55) rfl (by decide) (by omega) ?_
      refine q_aload_n rfl rfl ?_
      refine v_gr (t := 2) rfl rfl rfl (by decide) rfl ?_
      refine q_iload_n rfl rfl ?_
      have kn_44 : Hid (c_9 2 (nx F e1 a9) = (F (nx F e1 a9))) := (hF_11 2 (nx F e1 a9) (fun h => absurd h.1 (nn rfl))).trans (hF (nx F e1 a9))
      refine v_ba (v := (F (nx F e1 a9))) rfl rfl (by decide) (by decide) (by omega) (hid kn_44) ?_
      refine q_aload_n rfl rfl ?_
      refine q_iload_n rfl rfl ?_
      refine v_sch 59 rfl rfl (by omega) (Nat.le_of_ble_eq_true rfl) (by decide) (by decide) (by decide) ?_
      by_cases h_45 : (F (nx F e1 a9)) ≠ 59
      · refine v_ic_ne_t (t := 49) rfl (by decide) (by omega) ?_
        refine v_iinc (v := 1) rfl rfl (by decide) (by decide) ?_
        refine q_goto (t := 7) rfl (by decide) ?_
        refine q_iload_n rfl rfl ?_
        refine q_aload_n rfl rfl ?_
        refine v_sln 1 rfl rfl (by omega) (Nat.le_of_ble_eq_true rfl) (by decide) (by decide) ?_
        refine v_ic_ge_t (t := 55) rfl (by decide) (by decide) ?_
        refine q_iconst rfl ?_
        refine q_iret rfl rfl ?_
        refine bk_inl ?_
        refine q_iconst rfl ?_
        refine v_ic_ne_f (t := 25) rfl (by decide) (by decide) ?_
        refine q_aload_n rfl rfl ?_
        refine q_iconst rfl ?_
        refine q_aload_n rfl rfl ?_
        refine v_gi (z := 2) (v := (nx F e1 a9)) rfl rfl rfl (by decide) rfl rfl (hz_12) ?_
        refine v_cv rfl rfl rfl rfl (by decide) ⟨⟨rfl, rfl⟩, by decide, rfl⟩ (Nat.le_of_ble_eq_true rfl) (Nat.le_of_ble_eq_true rfl) ?_
        refine q_aload_n rfl rfl ?_
        have kn_46 : Hid (c_9 1 4 = 0) := (hF_11 1 4 (fun h => absurd h.2 (ni rfl))).trans (hs9)
        refine v_gi (z := 4) (v := 0) rfl rfl rfl (by decide) rfl rfl (hid kn_46) ?_
        refine v_if_ne_f (t := 17) rfl (by decide) (by decide) ?_
        refine q_aload_n rfl rfl ?_
        refine q_iload_n rfl rfl ?_
        refine v_pi (z := 4) rfl rfl rfl (by decide) rfl rfl rfl (by decide) ?_
        refine q_aload_n rfl rfl ?_
        refine q_iload_n rfl rfl ?_
        refine v_pi (z := 5) rfl rfl rfl (by decide) rfl rfl rfl (by decide) ?_
        refine q_vret rfl rfl ?_
        refine bk_inl ?_
        refine q_vret rfl rfl ?_
        have hI_47 := iw_1_4 (v := 1) hI_10 ⟨by decide, by decide⟩
        have hI_48 := iw_1_5 (v := (nx F e1 a9)) hI_47 ⟨by omega, by omega⟩
        intro hE_49
        have hW : Wd P Q P P (up (up c_9 1 4 1) 1 5 (nx F e1 a9)) = Wd P Q P P m9 := (Prod.mk.inj (Prod.mk.inj hE_49).2).1
        have h_50 := ir_1_4 hJ9
        have h_51 : m9 1 4 = 1 := wd_fv (z := 4) 4 rfl hW rfl rfl rfl rfl (by decide) ((up_n (by decide)).trans (up_e rfl)) ⟨by omega, by omega⟩ ⟨by omega, by omega⟩
        have h_52 := ir_1_2 hJ9
        have h_53 : m9 1 2 = (nx F e1 a9) := wd_fv (z := 2) 2 rfl hW rfl rfl rfl rfl (by decide) ((up_n (by decide)).trans ((up_n (by decide)).trans (hz_12))) ⟨by omega, by omega⟩ ⟨by omega, by omega⟩
        have h_54 := ir_1_5 hJ9
        have h_55 : m9 1 5 = (nx F e1 a9) := wd_fv (z := 5) 5 rfl hW rfl rfl rfl rfl (by decide) (up_e rfl) ⟨by omega, by omega⟩ ⟨by omega, by omega⟩
        refine q_aload_n rfl rfl ?_
        refine v_cv rfl rfl rfl rfl (by decide) ⟨⟨rfl, rfl⟩, by decide, rfl⟩ (Nat.le_of_ble_eq_true rfl) (Nat.le_of_ble_eq_true rfl) ?_
        refine q_aload_n rfl rfl ?_
        have h_56 := ir_41_5 hI
        have h_57 := ir_1_5 hJ
        have h_58 := ir_41_4 hI
        have h_59 := ir_41_6 hI
        have h_60 := rt_ok hRt (by omega)
        have hro_hRt := rt_ok hRt (by omega)
        refine v_gi (z := 5) (v := (-1)) rfl rfl rfl (by decide) rfl rfl hro_hRt.2.1 ?_
        refine q_iconst rfl ?_
        refine v_ic_ne_f (t := 12) rfl (by decide) (by decide) ?_
        refine q_iconst rfl ?_
        refine q_goto (t := 13) rfl (by decide) ?_
        refine v_zret rfl rfl (by decide) ?_
        refine bk_inl ?_
        refine v_if_eq_f (t := 24) rfl (by decide) (by decide) ?_
        refine q_aload_n rfl rfl ?_
        have h_61 : -2147483648 ≤ (H (nx F e1 a9)) ∧ (H (nx F e1 a9)) ≤ 2147483647 := by rw [← hH (nx F e1 a9)]; exact ir_43 hI (nx F e1 a9)
        have h_62 := hU (nx F e1 a9) (by omega) (by omega)
        have h_63 := hb_or (b := H) (e := e1) (r := (nx F e1 a9))
        have h_64 := hb_bd (b := H) (e := e1) (r := (nx F e1 a9)) (lo := -2147483648) (hi := 2147483647) ⟨by omega, by omega⟩ (by decide)
        refine v_cv rfl rfl rfl rfl (by decide) ⟨⟨rfl, rfl⟩, by decide, rfl⟩ (Nat.le_of_ble_eq_true rfl) (Nat.le_of_ble_eq_true rfl) (f_154 (e1 := e1) (a9 := a9) (B := H) (r8 := (nx F e1 a9)) (r := (hb H e1 (nx F e1 a9))) hI ((hr_e1)) (((hro_hRt.2.2.1).trans ((hg_a9)))) (fun j => hH j) ((nx_tr hU (by omega) (by omega)).trans (rfl)) rfl (fun c_65 hI_66 hF_67 h_68 => ?_))
        refine bk_inl ?_
        refine q_iload_n rfl rfl ?_
        refine v_ic_eq_f (t := 24) rfl (by decide) (by omega) ?_
        refine q_aload_n rfl rfl ?_
        refine q_iconst rfl ?_
        refine q_aload_n rfl rfl ?_
        refine v_gi (z := 4) (v := (nx F e1 a9)) rfl rfl rfl (by decide) rfl rfl (h_68) ?_
        refine v_cv rfl rfl rfl rfl (by decide) ⟨⟨rfl, rfl⟩, by decide, rfl⟩ (Nat.le_of_ble_eq_true rfl) (Nat.le_of_ble_eq_true rfl) ?_
        refine q_aload_n rfl rfl ?_
        have kn_69 : Hid (c_65 41 5 = (-1)) := (hF_67 41 5 (fun h => absurd h.2 (ni rfl))).trans hro_hRt.2.1
        refine v_gi (z := 5) (v := (-1)) rfl rfl rfl (by decide) rfl rfl (hid kn_69) ?_
        refine q_iconst rfl ?_
        refine v_ic_eq_t (t := 9) rfl (by decide) (by decide) ?_
        refine q_aload_n rfl rfl ?_
        refine q_iload_n rfl rfl ?_
        refine v_pi (z := 5) rfl rfl rfl (by decide) rfl rfl rfl (by decide) ?_
        refine q_aload_n rfl rfl ?_
        refine q_iload_n rfl rfl ?_
        refine v_pi (z := 6) rfl rfl rfl (by decide) rfl rfl rfl (by decide) ?_
        refine q_vret rfl rfl ?_
        refine bk_inl ?_
        refine q_aload_n rfl rfl ?_
        refine v_cv rfl rfl rfl rfl (by decide) ⟨⟨rfl, rfl⟩, by decide, rfl⟩ (Nat.le_of_ble_eq_true rfl) (Nat.le_of_ble_eq_true rfl) ?_
        refine q_aload_n rfl rfl ?_
        refine v_gi (z := 5) (v := (nx F e1 a9)) rfl rfl rfl (by decide) rfl rfl ((up_n (by decide)).trans (up_e rfl)) ?_
        refine q_iconst rfl ?_
        refine v_ic_ne_t (t := 12) rfl (by decide) (by omega) ?_
        refine q_iconst rfl ?_
        refine v_zret rfl rfl (by decide) ?_
        refine bk_inl ?_
        refine v_if_eq_t (t := 41) rfl (by decide) (by decide) ?_
        refine q_vret rfl rfl ?_
        have hI_70 := iw_41_5 (v := (nx F e1 a9)) hI_66 ⟨by omega, by omega⟩
        have hI_71 := iw_41_6 (v := 1) hI_70 ⟨by decide, by decide⟩
        have h_72 : (up (up c_65 41 5 (nx F e1 a9)) 41 6 1) 41 5 = (nx F e1 a9) := ((up_n (by decide)).trans (up_e rfl))
        have h_73 : (up (up c_65 41 5 (nx F e1 a9)) 41 6 1) 41 4 = (nx F e1 a9) := ((up_n (by decide)).trans ((up_n (by decide)).trans (h_68)))
        have h_74 : (up (up c_65 41 5 (nx F e1 a9)) 41 6 1) 41 6 = 1 := (up_e rfl)
        exact K (up (up c_65 41 5 (nx F e1 a9)) 41 6 1)  hI_71 (fun a j hm => (up_b (Decidable.or_iff_not_imp_left.mpr (fun h1 h2 => hm (Or.inr (Or.inr ⟨Decidable.not_not.mp h1, h2⟩))))).trans ((up_b (Decidable.or_iff_not_imp_left.mpr (fun h1 h2 => hm (Or.inr (Or.inl ⟨Decidable.not_not.mp h1, h2⟩))))).trans (hF_67 a j (fun h => hm (Or.inl h))))) (by unfold Rt; omega) (by omega) (by omega)
      · refine v_ic_ne_f (t := 49) rfl (by decide) (by omega) ?_
        refine q_aload_n rfl rfl ?_
        refine q_dup rfl rfl ?_
        refine v_gi (z := 2) (v := (nx F e1 a9)) rfl rfl rfl (by decide) rfl rfl (hz_12) ?_
        refine q_iconst rfl ?_
        refine v_iadd (v := (nx F e1 a9) + 1) rfl (by omega) ?_
        refine v_pi (z := 2) rfl rfl rfl (by decide) rfl rfl rfl (by decide) ?_
        refine q_iload_n rfl rfl ?_
        refine q_iret rfl rfl ?_
        refine bk_inl ?_
        refine q_iconst rfl ?_
        refine v_ic_ne_t (t := 25) rfl (by decide) (by decide) ?_
        refine q_vret rfl rfl ?_
        have hI_75 := iw_1_2 (v := (nx F e1 a9) + 1) hI_10 ⟨by omega, by omega⟩
        intro hE_76
        have hW : Wd P Q P P (up c_9 1 2 ((nx F e1 a9) + 1)) = Wd P Q P P m9 := (Prod.mk.inj (Prod.mk.inj hE_76).2).1
        have kn_77 : Hid (c_9 1 4 = 0) := (hF_11 1 4 (fun h => absurd h.2 (ni rfl))).trans (hs9)
        have h_78 := ir_1_4 hJ9
        have h_79 : m9 1 4 = 0 := wd_fv (z := 4) 4 rfl hW rfl rfl rfl rfl (by decide) ((up_n (by decide)).trans (hid kn_77)) ⟨by omega, by omega⟩ ⟨by omega, by omega⟩
        have h_80 := ir_1_2 hJ9
        have h_81 : m9 1 2 = (nx F e1 a9) + 1 := wd_fv (z := 2) 2 rfl hW rfl rfl rfl rfl (by decide) (up_e rfl) ⟨by omega, by omega⟩ ⟨by omega, by omega⟩
        have kn_82 : Hid (c_9 1 5 = (-1)) := (hF_11 1 5 (fun h => absurd h.2 (ni rfl))).trans (hs8)
        have h_83 := ir_1_5 hJ9
        have h_84 : m9 1 5 = (-1) := wd_fv (z := 5) 5 rfl hW rfl rfl rfl rfl (by decide) ((up_n (by decide)).trans (hid kn_82)) ⟨by omega, by omega⟩ ⟨by omega, by omega⟩
        refine q_aload_n rfl rfl ?_
        refine v_cv rfl rfl rfl rfl (by decide) ⟨⟨rfl, rfl⟩, by decide, rfl⟩ (Nat.le_of_ble_eq_true rfl) (Nat.le_of_ble_eq_true rfl) ?_
        refine q_aload_n rfl rfl ?_
        have h_85 := ir_41_5 hI
        have h_86 := ir_1_5 hJ
        have h_87 := ir_41_4 hI
        have h_88 := ir_41_6 hI
        have h_89 := rt_ok hRt (by omega)
        have hro_hRt := rt_ok hRt (by omega)
        refine v_gi (z := 5) (v := (-1)) rfl rfl rfl (by decide) rfl rfl hro_hRt.2.1 ?_
        refine q_iconst rfl ?_
        refine v_ic_ne_f (t := 12) rfl (by decide) (by decide) ?_
        refine q_iconst rfl ?_
        refine q_goto (t := 13) rfl (by decide) ?_
        refine v_zret rfl rfl (by decide) ?_
        refine bk_inl ?_
        refine v_if_eq_f (t := 24) rfl (by decide) (by decide) ?_
        refine q_aload_n rfl rfl ?_
        have h_90 : -2147483648 ≤ (H (nx F e1 a9)) ∧ (H (nx F e1 a9)) ≤ 2147483647 := by rw [← hH (nx F e1 a9)]; exact ir_43 hI (nx F e1 a9)
        have h_91 := hU (nx F e1 a9) (by omega) (by omega)
        have h_92 := hb_or (b := H) (e := e1) (r := (nx F e1 a9))
        have h_93 := hb_bd (b := H) (e := e1) (r := (nx F e1 a9)) (lo := -2147483648) (hi := 2147483647) ⟨by omega, by omega⟩ (by decide)
        refine v_cv rfl rfl rfl rfl (by decide) ⟨⟨rfl, rfl⟩, by decide, rfl⟩ (Nat.le_of_ble_eq_true rfl) (Nat.le_of_ble_eq_true rfl) (f_154 (e1 := e1) (a9 := a9) (B := H) (r8 := (nx F e1 a9)) (r := (hb H e1 (nx F e1 a9))) hI ((hr_e1)) (((hro_hRt.2.2.1).trans ((hg_a9)))) (fun j => hH j) ((nx_tr hU (by omega) (by omega)).trans (rfl)) rfl (fun c_94 hI_95 hF_96 h_97 => ?_))
        refine bk_inl ?_
        refine q_iload_n rfl rfl ?_
        refine v_ic_eq_t (t := 24) rfl (by decide) (by omega) ?_
        refine q_aload_n rfl rfl ?_
        refine v_cv rfl rfl rfl rfl (by decide) ⟨⟨rfl, rfl⟩, by decide, rfl⟩ (Nat.le_of_ble_eq_true rfl) (Nat.le_of_ble_eq_true rfl) ?_
        refine q_aload_n rfl rfl ?_
        have kn_98 : Hid (c_94 41 5 = (-1)) := (hF_96 41 5 (fun h => absurd h.2 (ni rfl))).trans hro_hRt.2.1
        refine v_gi (z := 5) (v := (-1)) rfl rfl rfl (by decide) rfl rfl (hid kn_98) ?_
        refine q_iconst rfl ?_
        refine v_ic_ne_f (t := 12) rfl (by decide) (by decide) ?_
        refine q_iconst rfl ?_
        refine q_goto (t := 13) rfl (by decide) ?_
        refine v_zret rfl rfl (by decide) ?_
        refine bk_inl ?_
        refine v_if_eq_f (t := 41) rfl (by decide) (by decide) ?_
        refine q_aload_n rfl rfl ?_
        refine q_dup rfl rfl ?_
        refine v_gi (z := 4) (v := (nx F e1 a9)) rfl rfl rfl (by decide) rfl rfl (h_97) ?_
        refine q_iconst rfl ?_
        refine v_iadd (v := (nx F e1 a9) + 1) rfl (by omega) ?_
        refine v_pi (z := 4) rfl rfl rfl (by decide) rfl rfl rfl (by decide) ?_
        refine q_vret rfl rfl ?_
        have hI_99 := iw_41_4 (v := (nx F e1 a9) + 1) hI_95 ⟨by omega, by omega⟩
        have h_100 : (up c_94 41 4 ((nx F e1 a9) + 1)) 41 5 = (-1) := ((up_n (by decide)).trans (hid kn_98))
        have h_101 : (up c_94 41 4 ((nx F e1 a9) + 1)) 41 4 = (nx F e1 a9) + 1 := (up_e rfl)
        have kn_102 : Hid (c_94 41 6 = c 41 6) := hF_96 41 6 (fun h => absurd h.2 (ni rfl))
        have h_103 : (up c_94 41 4 ((nx F e1 a9) + 1)) 41 6 = c 41 6 := ((up_n (by decide)).trans (hid kn_102))
        exact K (up c_94 41 4 ((nx F e1 a9) + 1))  hI_99 (fun a j hm => (up_b (Decidable.or_iff_not_imp_left.mpr (fun h1 h2 => hm (Or.inl ⟨Decidable.not_not.mp h1, h2⟩)))).trans (hF_96 a j (fun h => hm (Or.inl h)))) (by unfold Rt; omega) (by omega) (by omega)
  · skip
    refine q_aload_n rfl rfl ?_
    refine v_cv rfl rfl rfl rfl (by decide) ⟨⟨rfl, rfl⟩, by decide, rfl⟩ (Nat.le_of_ble_eq_true rfl) (Nat.le_of_ble_eq_true rfl) ?_
    refine q_aload_n rfl rfl ?_
    refine v_gi (z := 4) (v := f0) rfl rfl rfl (by decide) rfl rfl (hg_f0) ?_
    refine v_if_ne_t (t := 11) rfl (by decide) (by omega) ?_
    refine q_iconst rfl ?_
    refine v_zret rfl rfl (by decide) ?_
    refine bk_inl ?_
    refine v_if_eq_t (t := 25) rfl (by decide) (by decide) ?_
    refine q_vret rfl rfl ?_
    intro hE_104
    have hW : Wd P Q P P m = Wd P Q P P m9 := (Prod.mk.inj (Prod.mk.inj hE_104).2).1
    have h_105 := ir_1_4 hJ9
    have h_106 : m9 1 4 = f0 := wd_fv (z := 4) 4 rfl hW rfl rfl rfl rfl (by decide) (hg_f0) ⟨by omega, by omega⟩ ⟨by omega, by omega⟩
    have h_107 := ir_1_2 hJ9
    have h_108 : m9 1 2 = a9 := wd_fv (z := 2) 2 rfl hW rfl rfl rfl rfl (by decide) (hg_a9) ⟨by omega, by omega⟩ ⟨by omega, by omega⟩
    have h_109 := ir_1_5 hJ
    have h_110 := ir_1_5 hJ9
    have h_111 : m9 1 5 = m 1 5 := wd_fv (z := 5) 5 rfl hW rfl rfl rfl rfl (by decide) rfl ⟨by omega, by omega⟩ ⟨by omega, by omega⟩
    refine q_aload_n rfl rfl ?_
    refine v_cv rfl rfl rfl rfl (by decide) ⟨⟨rfl, rfl⟩, by decide, rfl⟩ (Nat.le_of_ble_eq_true rfl) (Nat.le_of_ble_eq_true rfl) ?_
    refine q_aload_n rfl rfl ?_
    have h_112 := ir_41_5 hI
    have h_113 := ir_41_4 hI
    have h_114 := ir_41_6 hI
    have h_115 := rt_bad hRt (by omega)
    have hrb_hRt := rt_bad hRt (by omega)
    refine v_gi (z := 5) (v := m 1 5) rfl rfl rfl (by decide) rfl rfl hrb_hRt.2.1 ?_
    refine q_iconst rfl ?_
    refine v_ic_ne_t (t := 12) rfl (by decide) (by omega) ?_
    refine q_iconst rfl ?_
    refine v_zret rfl rfl (by decide) ?_
    refine bk_inl ?_
    refine v_if_eq_t (t := 24) rfl (by decide) (by decide) ?_
    refine q_aload_n rfl rfl ?_
    refine v_cv rfl rfl rfl rfl (by decide) ⟨⟨rfl, rfl⟩, by decide, rfl⟩ (Nat.le_of_ble_eq_true rfl) (Nat.le_of_ble_eq_true rfl) ?_
    refine q_aload_n rfl rfl ?_
    refine v_gi (z := 5) (v := m 1 5) rfl rfl rfl (by decide) rfl rfl hrb_hRt.2.1 ?_
    refine q_iconst rfl ?_
    refine v_ic_ne_t (t := 12) rfl (by decide) (by omega) ?_
    refine q_iconst rfl ?_
    refine v_zret rfl rfl (by decide) ?_
    refine bk_inl ?_
    refine v_if_eq_t (t := 41) rfl (by decide) (by decide) ?_
    refine q_vret rfl rfl ?_
    have h_116 : c 41 5 = m 1 5 := hrb_hRt.2.1
    have h_117 : c 41 6 = f0 := ((hrb_hRt.2.2.2).trans ((hg_f0)))
    exact K c  hI (fun a j hm => rfl) (by unfold Rt; omega) (by omega) (by omega)

set_option maxRecDepth 100000 in
set_option maxHeartbeats 4000000 in
theorem L_11x {sc : List Int32} {e eg : Int} {d dh u ug P Q P2 Q2 : Nat} {c m m9 : ME} {e1 f0 g0 p0 b0 k0 : Int} {F H : Int → Int} {Z : AR → Prop} (hI : Iv u e P2 Q2 c) (hJ : Iv ug eg P Q m) (hJ9 : Iv ug eg P Q m9) (hq0 : (f0 ≥ 1 ∧ f0 ≤ 3 ∧ b0 = g0 ∧ g0 ≥ 0 ∧ k0 = f0) ∨ (f0 = 0 ∧ g0 = (-1) ∧ b0 = p0 ∧ p0 = e1 ∧ k0 = 1)) (hg_e1 : m 1 1 = e1) (hr_e1 : c 41 3 = e1) (hg_f0 : m 1 4 = f0) (hg_g0 : m 1 5 = g0) (hg_p0 : m 1 2 = p0) (hr_b0 : c 41 5 = b0) (hr_k0 : c 41 6 = k0) (hF : ∀ j : Int, m 2 j = F j) (hH : ∀ j : Int, c 43 j = H j) (hU : Ub F H) (hG : Wp sc (dh + 14) 11 0 [(0, .ref 1), (1, .ref (a_SB + 12))] [] (Wd P Q P P m) 0 0 (fun q => q = (.inl (none), Wd P Q P P m9, 0, 0))) (K : ∀ (c2 : ME), Iv u e P2 Q2 c2 → (∀ (a : Nat) (j : Int), ¬ ((a = 41 ∧ j = 4) ∨ (a = 41 ∧ j = 5) ∨ (a = 41 ∧ j = 6)) → c2 a j = c a j) → (Rt m9 c2) → ((m9 1 4 < 0) ∨ (m9 1 4 > 0)) → Z (.inl (none), Wd P2 Q2 P2 P2 c2, 0, 0)) : Wp sc (d + 14) 161 0 [(0, .ref 41), (1, vi 93)] [] (Wd P2 Q2 P2 P2 c) 0 0 Z := by
  have hP := iv_P hJ
  have hQ := iv_Q hJ
  have h_1 := ir_1_1 hJ
  have h_2 := ir_41_3 hI
  have h_3 := ir_1_4 hJ
  have h_4 := ir_1_5 hJ
  have h_5 := ir_1_2 hJ
  have h_6 := ir_41_5 hI
  have h_7 := ir_41_6 hI
  refine gh hG ?_
  refine q_aload_n rfl rfl ?_
  refine v_cv rfl rfl rfl rfl (by decide) ⟨⟨rfl, rfl⟩, by decide, rfl⟩ (Nat.le_of_ble_eq_true rfl) (Nat.le_of_ble_eq_true rfl) ?_
  refine q_aload_n rfl rfl ?_
  refine v_gi (z := 4) (v := f0) rfl rfl rfl (by decide) rfl rfl (hg_f0) ?_
  by_cases h_8 : f0 ≠ 0
  · refine v_if_ne_t (t := 11) rfl (by decide) (by omega) ?_
    refine q_iconst rfl ?_
    refine v_zret rfl rfl (by decide) ?_
    refine bk_inl ?_
    refine v_if_eq_t (t := 25) rfl (by decide) (by decide) ?_
    refine q_vret rfl rfl ?_
    intro hE_9
    have hW : Wd P Q P P m = Wd P Q P P m9 := (Prod.mk.inj (Prod.mk.inj hE_9).2).1
    have h_10 := ir_1_4 hJ9
    have h_11 : m9 1 4 = f0 := wd_fv (z := 4) 4 rfl hW rfl rfl rfl rfl (by decide) (hg_f0) ⟨by omega, by omega⟩ ⟨by omega, by omega⟩
    have h_12 := ir_1_2 hJ9
    have h_13 : m9 1 2 = p0 := wd_fv (z := 2) 2 rfl hW rfl rfl rfl rfl (by decide) (hg_p0) ⟨by omega, by omega⟩ ⟨by omega, by omega⟩
    have h_14 := ir_1_5 hJ9
    have h_15 : m9 1 5 = g0 := wd_fv (z := 5) 5 rfl hW rfl rfl rfl rfl (by decide) (hg_g0) ⟨by omega, by omega⟩ ⟨by omega, by omega⟩
    refine q_aload_n rfl rfl ?_
    refine v_cv rfl rfl rfl rfl (by decide) ⟨⟨rfl, rfl⟩, by decide, rfl⟩ (Nat.le_of_ble_eq_true rfl) (Nat.le_of_ble_eq_true rfl) ?_
    refine q_aload_n rfl rfl ?_
    refine v_gi (z := 5) (v := b0) rfl rfl rfl (by decide) rfl rfl (hr_b0) ?_
    refine q_iconst rfl ?_
    refine v_ic_ne_t (t := 12) rfl (by decide) (by omega) ?_
    refine q_iconst rfl ?_
    refine v_zret rfl rfl (by decide) ?_
    refine bk_inl ?_
    refine v_if_eq_t (t := 24) rfl (by decide) (by decide) ?_
    refine q_aload_n rfl rfl ?_
    refine v_cv rfl rfl rfl rfl (by decide) ⟨⟨rfl, rfl⟩, by decide, rfl⟩ (Nat.le_of_ble_eq_true rfl) (Nat.le_of_ble_eq_true rfl) ?_
    refine q_aload_n rfl rfl ?_
    refine v_gi (z := 5) (v := b0) rfl rfl rfl (by decide) rfl rfl (hr_b0) ?_
    refine q_iconst rfl ?_
    refine v_ic_ne_t (t := 12) rfl (by decide) (by omega) ?_
    refine q_iconst rfl ?_
    refine v_zret rfl rfl (by decide) ?_
    refine bk_inl ?_
    refine v_if_eq_t (t := 41) rfl (by decide) (by decide) ?_
    refine q_vret rfl rfl ?_
    have h_16 : c 41 5 = b0 := (hr_b0)
    have h_17 := ir_41_4 hI
    have h_18 : c 41 6 = k0 := (hr_k0)
    exact K c  hI (fun a j hm => rfl) (by unfold Rt; omega) (by omega)
  · refine v_if_ne_f (t := 11) rfl (by decide) (by omega) ?_
    refine q_iconst rfl ?_
    refine q_goto (t := 12) rfl (by decide) ?_
    refine v_zret rfl rfl (by decide) ?_
    refine bk_inl ?_
    refine v_if_eq_f (t := 25) rfl (by decide) (by decide) ?_
    refine q_aload_n rfl rfl ?_
    refine q_aload_n rfl rfl ?_
    refine v_cv rfl rfl rfl rfl (by decide) ⟨⟨rfl, rfl⟩, by decide, rfl⟩ (Nat.le_of_ble_eq_true rfl) (Nat.le_of_ble_eq_true rfl) ?_
    refine q_aload_n rfl rfl ?_
    have h_19 : -2147483648 ≤ (F p0) ∧ (F p0) ≤ 2147483647 := by rw [← hF p0]; exact ir_2 hJ p0
    refine v_cv rfl rfl rfl rfl (by decide) ⟨⟨rfl, rfl⟩, by decide, rfl⟩ (Nat.le_of_ble_eq_true rfl) (Nat.le_of_ble_eq_true rfl) (f_3 (e1 := e1) (a9 := p0) (B := F) (r8 := p0) hJ ((hg_e1)) ((hg_p0)) (fun j => hF j) (nx_z (by omega)) (fun c_20 hI_21 hF_22 hz_23 => ?_))
    refine bk_inl ?_
    refine q_istore_n rfl (by decide) ?_
    refine q_iconst rfl ?_
    refine q_istore_n rfl (by decide) ?_
    refine q_iload_n rfl rfl ?_
    refine q_aload_n rfl rfl ?_
    refine v_sln 1 rfl rfl (by omega) (Nat.le_of_ble_eq_true rfl) (by decide) (by decide) ?_
    refine v_ic_ge_f (t := 55) rfl (by decide) (by decide) ?_
    refine q_iload_n rfl rfl ?_
    refine q_aload_n rfl rfl ?_
    have kn_24 : Hid (c_20 1 1 = e1) := (hF_22 1 1 (fun h => absurd h.2 (ni rfl))).trans (hg_e1)
    refine v_gi (z := 1) (v := e1) rfl rfl rfl (by decide) rfl rfl (hid kn_24) ?_
    refine v_ic_ge_t (t := 55) rfl (by decide) (by omega) ?_
    refine q_iconst rfl ?_
    refine q_iret rfl rfl ?_
    refine bk_inl ?_
    refine q_iconst rfl ?_
    refine v_ic_ne_f (t := 25) rfl (by decide) (by decide) ?_
    refine q_aload_n rfl rfl ?_
    refine q_iconst rfl ?_
    refine q_aload_n rfl rfl ?_
    refine v_gi (z := 2) (v := p0) rfl rfl rfl (by decide) rfl rfl (hz_23) ?_
    refine v_cv rfl rfl rfl rfl (by decide) ⟨⟨rfl, rfl⟩, by decide, rfl⟩ (Nat.le_of_ble_eq_true rfl) (Nat.le_of_ble_eq_true rfl) ?_
    refine q_aload_n rfl rfl ?_
    have kn_25 : Hid (c_20 1 4 = f0) := (hF_22 1 4 (fun h => absurd h.2 (ni rfl))).trans (hg_f0)
    refine v_gi (z := 4) (v := f0) rfl rfl rfl (by decide) rfl rfl (hid kn_25) ?_
    refine v_if_ne_f (t := 17) rfl (by decide) (by omega) ?_
    refine q_aload_n rfl rfl ?_
    refine q_iload_n rfl rfl ?_
    refine v_pi (z := 4) rfl rfl rfl (by decide) rfl rfl rfl (by decide) ?_
    refine q_aload_n rfl rfl ?_
    refine q_iload_n rfl rfl ?_
    refine v_pi (z := 5) rfl rfl rfl (by decide) rfl rfl rfl (by decide) ?_
    refine q_vret rfl rfl ?_
    refine bk_inl ?_
    refine q_vret rfl rfl ?_
    have hI_26 := iw_1_4 (v := 1) hI_21 ⟨by decide, by decide⟩
    have hI_27 := iw_1_5 (v := p0) hI_26 ⟨by omega, by omega⟩
    intro hE_28
    have hW : Wd P Q P P (up (up c_20 1 4 1) 1 5 p0) = Wd P Q P P m9 := (Prod.mk.inj (Prod.mk.inj hE_28).2).1
    have h_29 := ir_1_4 hJ9
    have h_30 : m9 1 4 = 1 := wd_fv (z := 4) 4 rfl hW rfl rfl rfl rfl (by decide) ((up_n (by decide)).trans (up_e rfl)) ⟨by omega, by omega⟩ ⟨by omega, by omega⟩
    have h_31 := ir_1_2 hJ9
    have h_32 : m9 1 2 = p0 := wd_fv (z := 2) 2 rfl hW rfl rfl rfl rfl (by decide) ((up_n (by decide)).trans ((up_n (by decide)).trans (hz_23))) ⟨by omega, by omega⟩ ⟨by omega, by omega⟩
    have h_33 := ir_1_5 hJ9
    have h_34 : m9 1 5 = p0 := wd_fv (z := 5) 5 rfl hW rfl rfl rfl rfl (by decide) (up_e rfl) ⟨by omega, by omega⟩ ⟨by omega, by omega⟩
    refine q_aload_n rfl rfl ?_
    refine v_cv rfl rfl rfl rfl (by decide) ⟨⟨rfl, rfl⟩, by decide, rfl⟩ (Nat.le_of_ble_eq_true rfl) (Nat.le_of_ble_eq_true rfl) ?_
    refine q_aload_n rfl rfl ?_
    refine v_gi (z := 5) (v := b0) rfl rfl rfl (by decide) rfl rfl (hr_b0) ?_
    refine q_iconst rfl ?_
    refine v_ic_ne_t (t := 12) rfl (by decide) (by omega) ?_
    refine q_iconst rfl ?_
    refine v_zret rfl rfl (by decide) ?_
    refine bk_inl ?_
    refine v_if_eq_t (t := 24) rfl (by decide) (by decide) ?_
    refine q_aload_n rfl rfl ?_
    refine v_cv rfl rfl rfl rfl (by decide) ⟨⟨rfl, rfl⟩, by decide, rfl⟩ (Nat.le_of_ble_eq_true rfl) (Nat.le_of_ble_eq_true rfl) ?_
    refine q_aload_n rfl rfl ?_
    refine v_gi (z := 5) (v := b0) rfl rfl rfl (by decide) rfl rfl (hr_b0) ?_
    refine q_iconst rfl ?_
    refine v_ic_ne_t (t := 12) rfl (by decide) (by omega) ?_
    refine q_iconst rfl ?_
    refine v_zret rfl rfl (by decide) ?_
    refine bk_inl ?_
    refine v_if_eq_t (t := 41) rfl (by decide) (by decide) ?_
    refine q_vret rfl rfl ?_
    have h_35 : c 41 5 = b0 := (hr_b0)
    have h_36 := ir_41_4 hI
    have h_37 : c 41 6 = k0 := (hr_k0)
    exact K c  hI (fun a j hm => rfl) (by unfold Rt; omega) (by omega)

