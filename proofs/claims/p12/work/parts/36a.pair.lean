/-! ===== class and reference side by side 2 ===== -/
set_option maxRecDepth 100000 in
set_option maxHeartbeats 4000000 in
theorem L_34a_l {sc : List Int32} {e eg : Int} {d dh u ug P Q P2 Q2 A : Nat} {c m m9 : ME} {a1 e1 f0 g0 z0 z1 z2 z3 : Int} {F H : Int → Int} {Z : AR → Prop} (hI : Iv u e P2 Q2 c) (hJ : Iv ug eg P Q m) (hJ9 : Iv ug eg P Q m9) (hA : A = 13 ∨ A = 25) (ha1 : (-2147483648) ≤ a1 ∧ a1 ≤ 2147483647) (hq0 : (f0 = 0)) (hq1 : (g0 = (-1))) (hq2 : (z0 = 0)) (hq3 : (z1 = 0)) (hq4 : (z2 = 0)) (hq5 : (z3 = 5)) (hg_e1 : m 1 1 = e1) (hr_e1 : c 41 3 = e1) (hg_f0 : m 1 4 = f0) (hg_g0 : m 1 5 = g0) (hr_z0 : c 41 16 = z0) (hr_z1 : c 41 17 = z1) (hr_z2 : c 41 18 = z2) (hr_z3 : c 41 19 = z3) (hF : ∀ j : Int, m 2 j = F j) (hH : ∀ j : Int, c 43 j = H j) (hU : Ub F H) (hRt : Rt m c) (K : ∀ (c2 : ME), Iv u e P2 Q2 c2 → (∀ (a : Nat) (j : Int), ¬ ((a = 41 ∧ j = 4) ∨ (a = 41 ∧ j = 5) ∨ (a = 41 ∧ j = 6) ∨ (a = 41 ∧ j = 16) ∨ (a = 41 ∧ j = 17) ∨ (a = 41 ∧ j = 18) ∨ (a = 41 ∧ j = 19) ∨ a = 44 ∨ a = 45 ∨ a = 46) → c2 a j = c a j) → (Rt m9 c2) → ((m9 1 4 < 0) ∨ (m9 1 4 > 0) ∨ (m9 A 0 = c2 41 16 ∧ m9 A 1 = c2 41 17 ∧ m9 A 2 = c2 41 18 ∧ m9 A 3 = c2 41 19)) → (m9 1 4 = 0 → Ae (4 * c2 41 16) (m9 (A + 1)) (c2 44)) → (m9 1 4 = 0 → Ae (3 * c2 41 17) (m9 (A + 2)) (c2 45)) → (m9 1 4 = 0 → Ae (c2 41 18) (m9 (A + 3)) (c2 46)) → Wp sc (d + 22) 169 136 [(0, .ref 41), (1, vi a1)] [] (Wd P2 Q2 P2 P2 c2) 0 0 Z) : ∀ n : Nat, (∀ (c2 m2 : ME) (v : Int) (a : Int) (jr : Int) (st : Int) (si : Int) (du : Int), Iv u e P2 Q2 c2 → (∀ (a : Nat) (j : Int), ¬ ((a = 41 ∧ j = 4) ∨ (a = 41 ∧ j = 5) ∨ (a = 41 ∧ j = 6) ∨ (a = 41 ∧ j = 16) ∨ (a = 41 ∧ j = 17) ∨ (a = 41 ∧ j = 18) ∨ (a = 41 ∧ j = 19) ∨ a = 44 ∨ a = 45 ∨ a = 46) → c2 a j = c a j) → Iv ug eg P Q m2 → (∀ (a : Nat) (j : Int), ¬ ((a = 1 ∧ j = 2) ∨ (a = 1 ∧ j = 4) ∨ (a = 1 ∧ j = 5) ∨ (a = A ∧ j = 0) ∨ (a = A ∧ j = 1) ∨ (a = A ∧ j = 2) ∨ (a = A ∧ j = 3) ∨ a = (A + 1) ∨ a = (A + 2) ∨ a = (A + 3) ∨ (a = A ∧ j = 4) ∨ (a = A ∧ j = 5) ∨ a = (A + 6) ∨ (a = (A + 7) ∧ j = 4)) → m2 a j = m a j) → 0 ≤ v ∧ v ≤ 60 → 0 ≤ a ∧ a ≤ 600 → 0 ≤ jr ∧ jr ≤ 6 → 0 ≤ st ∧ st ≤ 4 → 0 ≤ si ∧ si ≤ 4 → 0 ≤ du ∧ du ≤ 50 → m2 1 2 = a → c2 41 4 = a → m2 A 0 = jr → c2 41 16 = jr → m2 A 1 = st → c2 41 17 = st → m2 A 2 = si → c2 41 18 = si → m2 A 3 = du → c2 41 19 = du → m2 1 4 = 0 → c2 41 5 = (-1) → m2 1 5 = (-1) → (Ae (4 * jr) (m2 (A + 1)) (c2 44)) → (Ae (3 * st) (m2 (A + 2)) (c2 45)) → (Ae si (m2 (A + 3)) (c2 46)) → Wp sc (dh + 30) 34 6 [(0, .ref A), (1, .ref 1), (2, vi v)] [] (Wd P Q P P m2) 0 0 (fun q => q = (.inl (none), Wd P Q P P m9, 0, 0)) → 61 - v < (n : Int) → Wp sc (d + 22) 169 44 [(0, .ref 41), (1, vi a1), (2, vi v)] [] (Wd P2 Q2 P2 P2 c2) 0 0 Z)
  | 0 => by intro c2 m2 v a jr st si du hI2 hFc hJ2 hFm hv ha hjr hst hsi hdu hg_a hr_a hg_jr hr_jr hg_st hr_st hg_si hr_si hg_du hr_du hc_0 hc_1 hc_2 hrl0 hrl1 hrl2 hG2 hm9; exfalso; omega
  | n + 1 => by
    have hP := iv_P hJ
    have hQ := iv_Q hJ
    have ih := L_34a_l (sc := sc) (d := d) (dh := dh) hI hJ hJ9 hA ha1 hq0 hq1 hq2 hq3 hq4 hq5 hg_e1 hr_e1 hg_f0 hg_g0 hr_z0 hr_z1 hr_z2 hr_z3 hF hH hU hRt K n
    intro c2 m2 v a jr st si du hI2 hFc hJ2 hFm hv ha hjr hst hsi hdu hg_a hr_a hg_jr hr_jr hg_st hr_st hg_si hr_si hg_du hr_du hc_0 hc_1 hc_2 hrl0 hrl1 hrl2 hG2 hm9
    have h_1 := ir_1_1 hJ
    have h_2 := ir_41_3 hI
    have h_3 := ir_1_4 hJ
    have h_4 := ir_1_5 hJ
    have h_5 := ir_41_16 hI
    have h_6 := ir_41_17 hI
    have h_7 := ir_41_18 hI
    have h_8 := ir_41_19 hI
    have h_9 := ir_1_2 hJ2
    have h_10 := ir_41_4 hI2
    have h_11 := ir_p0_0 hJ2 hA
    have h_12 := ir_41_16 hI2
    have h_13 := ir_p0_1 hJ2 hA
    have h_14 := ir_41_17 hI2
    have h_15 := ir_p0_2 hJ2 hA
    have h_16 := ir_41_18 hI2
    have h_17 := ir_p0_3 hJ2 hA
    have h_18 := ir_41_19 hI2
    have h_19 := ir_1_4 hJ2
    have h_20 := ir_41_5 hI2
    have h_21 := ir_1_5 hJ2
    refine gh hG2 ?_
    refine q_iload_n rfl rfl ?_
    refine v_bip rfl (by decide) ?_
    refine v_ic_gt_f (t := 85) rfl (by decide) ⟨(Int.le_trans (by decide) hv.1), (Int.le_trans hv.2 (by decide)), by decide⟩ ?_
    refine q_aload_n rfl rfl ?_
    refine v_cv rfl rfl rfl rfl (by decide) ⟨⟨rfl, rfl⟩, by decide, rfl⟩ (Nat.le_of_ble_eq_true rfl) (Nat.le_of_ble_eq_true rfl) ?_
    refine q_aload_n rfl rfl ?_
    refine v_cv rfl rfl rfl rfl (by decide) ⟨⟨rfl, rfl⟩, by decide, rfl⟩ (Nat.le_of_ble_eq_true rfl) (Nat.le_of_ble_eq_true rfl) ?_
    refine q_aload_n rfl rfl ?_
    refine v_gi (z := 4) (v := 0) rfl rfl rfl (by decide) rfl rfl (hc_0) ?_
    refine v_if_ne_f (t := 11) rfl (by decide) (by decide) ?_
    refine q_iconst rfl ?_
    refine q_goto (t := 12) rfl (by decide) ?_
    refine v_zret rfl rfl (by decide) ?_
    refine bk_inl ?_
    refine v_if_eq_f (t := 22) rfl (by decide) (by decide) ?_
    refine q_aload_n rfl rfl ?_
    have kn_22 : Hid (m2 1 1 = e1) := (hFm 1 1 (fun q => q.elim (fun h => absurd h.2 (ni rfl)) (fun q => q.elim (fun h => absurd h.2 (ni rfl)) (fun q => q.elim (fun h => absurd h.2 (ni rfl)) (fun q => q.elim (fun h => absurd h.1 (pn0 hA rfl)) (fun q => q.elim (fun h => absurd h.1 (pn0 hA rfl)) (fun q => q.elim (fun h => absurd h.1 (pn0 hA rfl)) (fun q => q.elim (fun h => absurd h.1 (pn0 hA rfl)) (fun q => q.elim (fun h => absurd h (pn hA rfl rfl)) (fun q => q.elim (fun h => absurd h (pn hA rfl rfl)) (fun q => q.elim (fun h => absurd h (pn hA rfl rfl)) (fun q => q.elim (fun h => absurd h.1 (pn0 hA rfl)) (fun q => q.elim (fun h => absurd h.1 (pn0 hA rfl)) (fun q => q.elim (fun h => absurd h (pn hA rfl rfl)) (fun h => absurd h.1 (pn hA rfl rfl)))))))))))))))).trans (hg_e1)
    have h_23 : -2147483648 ≤ (F a) ∧ (F a) ≤ 2147483647 := by rw [← hF a]; exact ir_2 hJ a
    have h_24 := nx_bd (b := F) (e := e1) (a := a)
    have h_25 : -2147483648 ≤ (F (nx F e1 a)) ∧ (F (nx F e1 a)) ≤ 2147483647 := by rw [← hF (nx F e1 a)]; exact ir_2 hJ (nx F e1 a)
    have h_26 := nx_n (b := F) (e := e1) (a := a)
    refine v_cv rfl rfl rfl rfl (by decide) ⟨⟨rfl, rfl⟩, by decide, rfl⟩ (Nat.le_of_ble_eq_true rfl) (Nat.le_of_ble_eq_true rfl) (f_3 (e1 := e1) (a9 := a) (B := F) (r8 := (nx F e1 a)) hJ2 ((hid kn_22)) ((hg_a)) (fun j => (hFm 2 j (fun q => q.elim (fun h => absurd h.1 (nn rfl)) (fun q => q.elim (fun h => absurd h.1 (nn rfl)) (fun q => q.elim (fun h => absurd h.1 (nn rfl)) (fun q => q.elim (fun h => absurd h.1 (pn0 hA rfl)) (fun q => q.elim (fun h => absurd h.1 (pn0 hA rfl)) (fun q => q.elim (fun h => absurd h.1 (pn0 hA rfl)) (fun q => q.elim (fun h => absurd h.1 (pn0 hA rfl)) (fun q => q.elim (fun h => absurd h (pn hA rfl rfl)) (fun q => q.elim (fun h => absurd h (pn hA rfl rfl)) (fun q => q.elim (fun h => absurd h (pn hA rfl rfl)) (fun q => q.elim (fun h => absurd h.1 (pn0 hA rfl)) (fun q => q.elim (fun h => absurd h.1 (pn0 hA rfl)) (fun q => q.elim (fun h => absurd h (pn hA rfl rfl)) (fun h => absurd h.1 (pn hA rfl rfl)))))))))))))))).trans (hF j)) rfl (fun c_27 hI_28 hF_29 hz_30 => ?_))
    refine bk_inl ?_
    refine q_aload_n rfl rfl ?_
    have kn_31 : Hid (c_27 1 1 = e1) := (hF_29 1 1 (fun h => absurd h.2 (ni rfl))).trans (hid kn_22)
    refine v_gi (z := 1) (v := e1) rfl rfl rfl (by decide) rfl rfl (hid kn_31) ?_
    by_cases h_32 : (nx F e1 a) ≥ e1
    · refine v_ic_ge_t (t := 22) rfl (by decide) ⟨(Int.le_trans (by decide) (rg_eq hg_e1 h_1).1), h_32, by first | (clear h_3 h_4 h_5 h_6 h_7 h_8 h_11 h_12 h_13 h_14 h_15 h_16 h_17 h_18 h_19 h_20 h_21 h_23; omega) | omega⟩ ?_
      refine q_iconst rfl ?_
      refine v_zret rfl rfl (by decide) ?_
      refine bk_inl ?_
      refine v_if_eq_t (t := 85) rfl (by decide) (by decide) ?_
      refine q_vret rfl rfl ?_
      intro hE_33
      have hW : Wd P Q P P c_27 = Wd P Q P P m9 := (Prod.mk.inj (Prod.mk.inj hE_33).2).1
      have kn_34 : Hid (c_27 1 4 = 0) := (hF_29 1 4 (fun h => absurd h.2 (ni rfl))).trans (hc_0)
      have h_35 := ir_1_4 hJ9
      have h_36 : m9 1 4 = 0 := wd_fv (z := 4) 4 rfl hW rfl rfl rfl rfl (by decide) (hid kn_34) ⟨by decide, by decide⟩ ⟨(Int.le_trans (by decide) h_35.1), (Int.le_trans h_35.2 (by decide))⟩
      have h_37 := ir_1_2 hJ9
      have h_38 : m9 1 2 = (nx F e1 a) := wd_fv (z := 2) 2 rfl hW rfl rfl rfl rfl (by decide) (hz_30) ⟨by first | (clear h_1 h_2 h_3 h_4 h_5 h_6 h_7 h_8 h_9 h_10 h_11 h_12 h_13 h_14 h_15 h_16 h_17 h_18 h_19 h_20 h_21 h_23 h_25 h_35 h_36 h_37; omega) | omega, by first | (clear h_3 h_4 h_5 h_6 h_7 h_8 h_11 h_12 h_13 h_14 h_15 h_16 h_17 h_18 h_19 h_20 h_21 h_23 h_35 h_36 h_37; omega) | omega⟩ ⟨(Int.le_trans (by decide) h_37.1), (Int.le_trans h_37.2 (by decide))⟩
      have kn_39 : Hid (c_27 1 5 = (-1)) := (hF_29 1 5 (fun h => absurd h.2 (ni rfl))).trans (hc_2)
      have h_40 := ir_1_5 hJ9
      have h_41 : m9 1 5 = (-1) := wd_fv (z := 5) 5 rfl hW rfl rfl rfl rfl (by decide) (hid kn_39) ⟨by decide, by decide⟩ ⟨(Int.le_trans (by decide) h_40.1), (Int.le_trans h_40.2 (by decide))⟩
      have kn_42 : Hid (c_27 A 0 = jr) := (hF_29 A 0 (fun h => absurd h.1 (np0 hA rfl))).trans (hg_jr)
      have h_43 := ir_p0_0 hJ9 hA
      have h_44 : m9 A 0 = jr := wd_fv (z := 0) 0 rfl hW (ck_p0 hA) (ck_p0 hA) rfl rfl (by omega) (hid kn_42) ⟨(Int.le_trans (by decide) hjr.1), (Int.le_trans hjr.2 (by decide))⟩ ⟨(Int.le_trans (by decide) h_43.1), (Int.le_trans h_43.2 (by decide))⟩
      have kn_45 : Hid (c_27 A 1 = st) := (hF_29 A 1 (fun h => absurd h.1 (np0 hA rfl))).trans (hg_st)
      have h_46 := ir_p0_1 hJ9 hA
      have h_47 : m9 A 1 = st := wd_fv (z := 1) 1 rfl hW (ck_p0 hA) (ck_p0 hA) rfl rfl (by omega) (hid kn_45) ⟨(Int.le_trans (by decide) hst.1), (Int.le_trans hst.2 (by decide))⟩ ⟨(Int.le_trans (by decide) h_46.1), (Int.le_trans h_46.2 (by decide))⟩
      have kn_48 : Hid (c_27 A 2 = si) := (hF_29 A 2 (fun h => absurd h.1 (np0 hA rfl))).trans (hg_si)
      have h_49 := ir_p0_2 hJ9 hA
      have h_50 : m9 A 2 = si := wd_fv (z := 2) 2 rfl hW (ck_p0 hA) (ck_p0 hA) rfl rfl (by omega) (hid kn_48) ⟨(Int.le_trans (by decide) hsi.1), (Int.le_trans hsi.2 (by decide))⟩ ⟨(Int.le_trans (by decide) h_49.1), (Int.le_trans h_49.2 (by decide))⟩
      have kn_51 : Hid (c_27 A 3 = du) := (hF_29 A 3 (fun h => absurd h.1 (np0 hA rfl))).trans (hg_du)
      have h_52 := ir_p0_3 hJ9 hA
      have h_53 : m9 A 3 = du := wd_fv (z := 3) 3 rfl hW (ck_p0 hA) (ck_p0 hA) rfl rfl (by omega) (hid kn_51) ⟨(Int.le_trans (by decide) hdu.1), (Int.le_trans hdu.2 (by decide))⟩ ⟨(Int.le_trans (by decide) h_52.1), (Int.le_trans h_52.2 (by decide))⟩
      refine q_aload_n rfl rfl ?_
      refine v_cv rfl rfl rfl rfl (by decide) ⟨⟨rfl, rfl⟩, by decide, rfl⟩ (Nat.le_of_ble_eq_true rfl) (Nat.le_of_ble_eq_true rfl) ?_
      refine q_aload_n rfl rfl ?_
      refine v_gi (z := 5) (v := (-1)) rfl rfl rfl (by decide) rfl rfl (hc_1) ?_
      refine q_iconst rfl ?_
      refine v_ic_ne_f (t := 12) rfl (by decide) (by decide) ?_
      refine q_iconst rfl ?_
      refine q_goto (t := 13) rfl (by decide) ?_
      refine v_zret rfl rfl (by decide) ?_
      refine bk_inl ?_
      refine v_if_eq_f (t := 136) rfl (by decide) (by decide) ?_
      refine q_aload_n rfl rfl ?_
      refine v_cv rfl rfl rfl rfl (by decide) ⟨⟨rfl, rfl⟩, by decide, rfl⟩ (Nat.le_of_ble_eq_true rfl) (Nat.le_of_ble_eq_true rfl) ?_
      refine q_aload_n rfl rfl ?_
      have kn_54 : Hid (c2 41 3 = e1) := (hFc 41 3 (fun q => q.elim (fun h => absurd h.2 (ni rfl)) (fun q => q.elim (fun h => absurd h.2 (ni rfl)) (fun q => q.elim (fun h => absurd h.2 (ni rfl)) (fun q => q.elim (fun h => absurd h.2 (ni rfl)) (fun q => q.elim (fun h => absurd h.2 (ni rfl)) (fun q => q.elim (fun h => absurd h.2 (ni rfl)) (fun q => q.elim (fun h => absurd h.2 (ni rfl)) (fun q => q.elim (fun h => absurd h (nn rfl)) (fun q => q.elim (fun h => absurd h (nn rfl)) (fun h => absurd h (nn rfl)))))))))))).trans (hr_e1)
      have h_55 : -2147483648 ≤ (H (nx F e1 a)) ∧ (H (nx F e1 a)) ≤ 2147483647 := by rw [← hH (nx F e1 a)]; exact ir_43 hI (nx F e1 a)
      have h_56 : (nx F e1 a) < 600 → (H (nx F e1 a)) = (F (nx F e1 a)) % 256 ∧ -128 ≤ (F (nx F e1 a)) ∧ (F (nx F e1 a)) ≤ 127 := fun q => hU (nx F e1 a) (by omega) q
      have h_57 := hb_or (b := H) (e := e1) (r := (nx F e1 a))
      have h_58 := hb_bd (b := H) (e := e1) (r := (nx F e1 a)) (lo := -2147483648) (hi := 2147483647) ⟨by omega, by omega⟩ (by decide)
      refine v_cv rfl rfl rfl rfl (by decide) ⟨⟨rfl, rfl⟩, by decide, rfl⟩ (Nat.le_of_ble_eq_true rfl) (Nat.le_of_ble_eq_true rfl) (f_154 (e1 := e1) (a9 := a) (B := H) (r8 := (nx F e1 a)) (r := (hb H e1 (nx F e1 a))) hI2 ((hid kn_54)) ((hr_a)) (fun j => (hFc 43 j (fun q => q.elim (fun h => absurd h.1 (nn rfl)) (fun q => q.elim (fun h => absurd h.1 (nn rfl)) (fun q => q.elim (fun h => absurd h.1 (nn rfl)) (fun q => q.elim (fun h => absurd h.1 (nn rfl)) (fun q => q.elim (fun h => absurd h.1 (nn rfl)) (fun q => q.elim (fun h => absurd h.1 (nn rfl)) (fun q => q.elim (fun h => absurd h.1 (nn rfl)) (fun q => q.elim (fun h => absurd h (nn rfl)) (fun q => q.elim (fun h => absurd h (nn rfl)) (fun h => absurd h (nn rfl)))))))))))).trans (hH j)) ((nx_tr hU (by first | (clear h_1 h_2 h_3 h_4 h_5 h_6 h_7 h_8 h_9 h_10 h_11 h_12 h_13 h_14 h_15 h_16 h_17 h_18 h_19 h_20 h_21 h_23 h_24 h_25 h_32 h_35 h_36 h_37 h_38 h_40 h_41 h_43 h_44 h_46 h_47 h_49 h_50 h_52 h_53 h_26; omega) | omega) (by first | (clear h_3 h_4 h_5 h_6 h_7 h_8 h_9 h_10 h_11 h_12 h_13 h_14 h_15 h_16 h_17 h_18 h_19 h_20 h_21 h_23 h_25 h_35 h_36 h_37 h_38 h_40 h_41 h_43 h_44 h_46 h_47 h_49 h_50 h_52 h_53; omega) | omega)).trans (rfl)) rfl (fun c_59 hI_60 hF_61 h_62 => ?_))
      refine bk_inl ?_
      refine q_pop rfl rfl ?_
      refine q_aload_n rfl rfl ?_
      refine v_gi (z := 4) (v := (nx F e1 a)) rfl rfl rfl (by decide) rfl rfl (h_62) ?_
      refine q_aload_n rfl rfl ?_
      have kn_63 : Hid (c_59 41 3 = e1) := (hF_61 41 3 (fun h => absurd h.2 (ni rfl))).trans (hid kn_54)
      refine v_gi (z := 3) (v := e1) rfl rfl rfl (by decide) rfl rfl (hid kn_63) ?_
      refine v_ic_ge_t (t := 20) rfl (by decide) ⟨(Int.le_trans (by decide) (rg_eq hg_e1 h_1).1), by first | (clear h_3 h_4 h_5 h_6 h_7 h_8 h_9 h_10 h_11 h_12 h_13 h_14 h_15 h_16 h_17 h_18 h_19 h_20 h_21 h_23 h_25 h_35 h_36 h_37 h_40 h_41 h_43 h_44 h_46 h_47 h_49 h_50 h_52 h_53 h_55 h_58; omega) | omega, by first | (clear h_3 h_4 h_5 h_6 h_7 h_8 h_11 h_12 h_13 h_14 h_15 h_16 h_17 h_18 h_19 h_20 h_21 h_23 h_35 h_36 h_40 h_41 h_43 h_44 h_46 h_47 h_49 h_50 h_52 h_53; omega) | omega⟩ ?_
      refine q_iconst rfl ?_
      refine v_zret rfl rfl (by decide) ?_
      refine bk_inl ?_
      refine v_if_eq_t (t := 136) rfl (by decide) (by decide) ?_
      refine Wp_ls [(0, .ref 41), (1, vi a1)] (lsub_cons rfl (lsub_cons rfl lsub_nil)) ?_
      have kn_64 : Hid (c_59 41 5 = (-1)) := (hF_61 41 5 (fun h => absurd h.2 (ni rfl))).trans (hc_1)
      have h_65 : c_59 41 5 = (-1) := (hid kn_64)
      have h_66 : c_59 41 4 = (nx F e1 a) := (h_62)
      have h_67 := ir_41_6 hI2
      have kn_68 : Hid (c_59 41 6 = c2 41 6) := hF_61 41 6 (fun h => absurd h.2 (ni rfl))
      have h_69 : c_59 41 6 = c2 41 6 := (hid kn_68)
      have kn_70 : Hid (c_59 41 16 = jr) := (hF_61 41 16 (fun h => absurd h.2 (ni rfl))).trans (hr_jr)
      have h_71 : c_59 41 16 = jr := (hid kn_70)
      have kn_72 : Hid (c_59 41 17 = st) := (hF_61 41 17 (fun h => absurd h.2 (ni rfl))).trans (hr_st)
      have h_73 : c_59 41 17 = st := (hid kn_72)
      have kn_74 : Hid (c_59 41 18 = si) := (hF_61 41 18 (fun h => absurd h.2 (ni rfl))).trans (hr_si)
      have h_75 : c_59 41 18 = si := (hid kn_74)
      have kn_76 : Hid (c_59 41 19 = du) := (hF_61 41 19 (fun h => absurd h.2 (ni rfl))).trans (hr_du)
      have h_77 : c_59 41 19 = du := (hid kn_76)
      have h_78 : c_59 41 16 = jr := (hid kn_70)
      have hA_79 : Ae (4 * jr) (c_27 (A + 1)) (c_59 44) := ae_fr hrl0 (fun j => hF_29 (A + 1) j (fun h => absurd h.1 (np hA rfl rfl))) (fun j => hF_61 44 j (fun h => absurd h.1 (nn rfl)))
      have hA_80 : Ae (4 * jr) (m9 (A + 1)) (c_59 44) := ae_l hA_79 (fun j h1 h2 => wd_av hW (ck_p1 hA) (ck_p1 hA) (by decide) (by omega) ⟨h1, by omega⟩ rfl (wide (ir_p1 hI_28 hA j) (by decide) (by decide)) (wide (ir_p1 hJ9 hA j) (by decide) (by decide)))
      have h_81 : c_59 41 17 = st := (hid kn_72)
      have hA_82 : Ae (3 * st) (c_27 (A + 2)) (c_59 45) := ae_fr hrl1 (fun j => hF_29 (A + 2) j (fun h => absurd h.1 (np hA rfl rfl))) (fun j => hF_61 45 j (fun h => absurd h.1 (nn rfl)))
      have hA_83 : Ae (3 * st) (m9 (A + 2)) (c_59 45) := ae_l hA_82 (fun j h1 h2 => wd_av hW (ck_p2 hA) (ck_p2 hA) (by decide) (by omega) ⟨h1, by omega⟩ rfl (wide (ir_p2 hI_28 hA j) (by decide) (by decide)) (wide (ir_p2 hJ9 hA j) (by decide) (by decide)))
      have h_84 : c_59 41 18 = si := (hid kn_74)
      have hA_85 : Ae si (c_27 (A + 3)) (c_59 46) := ae_fr hrl2 (fun j => hF_29 (A + 3) j (fun h => absurd h.1 (np hA rfl rfl))) (fun j => hF_61 46 j (fun h => absurd h.1 (nn rfl)))
      have hA_86 : Ae si (m9 (A + 3)) (c_59 46) := ae_l hA_85 (fun j h1 h2 => wd_av hW (ck_p3 hA) (ck_p3 hA) (by decide) (by omega) ⟨h1, by omega⟩ rfl (wide (ir_p3 hI_28 hA j) (by decide) (by decide)) (wide (ir_p3 hJ9 hA j) (by decide) (by decide)))
      exact K c_59  hI_60 (fun a j hm => (hF_61 a j (fun h => hm (Or.inl h))).trans (hFc a j (fun q => q.elim (fun h => hm (Or.inl h)) (fun q => q.elim (fun h => hm (Or.inr (Or.inl h))) (fun q => q.elim (fun h => hm (Or.inr (Or.inr (Or.inl h)))) (fun q => q.elim (fun h => hm (Or.inr (Or.inr (Or.inr (Or.inl h))))) (fun q => q.elim (fun h => hm (Or.inr (Or.inr (Or.inr (Or.inr (Or.inl h)))))) (fun q => q.elim (fun h => hm (Or.inr (Or.inr (Or.inr (Or.inr (Or.inr (Or.inl h))))))) (fun q => q.elim (fun h => hm (Or.inr (Or.inr (Or.inr (Or.inr (Or.inr (Or.inr (Or.inl h)))))))) (fun q => q.elim (fun h => hm (Or.inr (Or.inr (Or.inr (Or.inr (Or.inr (Or.inr (Or.inr (Or.inl h))))))))) (fun q => q.elim (fun h => hm (Or.inr (Or.inr (Or.inr (Or.inr (Or.inr (Or.inr (Or.inr (Or.inr (Or.inl h)))))))))) (fun h => hm (Or.inr (Or.inr (Or.inr (Or.inr (Or.inr (Or.inr (Or.inr (Or.inr (Or.inr h))))))))))))))))))))) (rt_i1 ⟨by first | (clear h_1 h_2 h_3 h_4 h_5 h_6 h_7 h_8 h_9 h_10 h_11 h_12 h_13 h_14 h_15 h_16 h_17 h_18 h_19 h_20 h_21 h_23 h_24 h_25 h_32 h_37 h_38 h_40 h_41 h_43 h_44 h_46 h_47 h_49 h_50 h_52 h_53 h_55 h_58 h_67 h_26 h_56 h_57; omega) | omega, by first | (clear h_1 h_2 h_3 h_4 h_5 h_6 h_7 h_8 h_9 h_10 h_11 h_12 h_13 h_14 h_15 h_16 h_17 h_18 h_19 h_20 h_21 h_23 h_24 h_25 h_32 h_35 h_36 h_37 h_38 h_40 h_41 h_43 h_44 h_46 h_47 h_49 h_50 h_52 h_53 h_55 h_58 h_67 h_26 h_56 h_57; omega) | omega, by first | (clear h_1 h_2 h_3 h_4 h_5 h_6 h_7 h_8 h_9 h_10 h_11 h_12 h_13 h_14 h_15 h_16 h_17 h_18 h_19 h_20 h_21 h_23 h_25 h_35 h_36 h_40 h_41 h_43 h_44 h_46 h_47 h_49 h_50 h_52 h_53 h_55 h_58 h_67; omega) | omega, by first | (clear h_1 h_2 h_3 h_4 h_5 h_6 h_7 h_8 h_9 h_10 h_11 h_12 h_13 h_14 h_15 h_16 h_17 h_18 h_19 h_20 h_21 h_23 h_24 h_25 h_32 h_35 h_36 h_37 h_38 h_43 h_44 h_46 h_47 h_49 h_50 h_52 h_53 h_55 h_58 h_67 h_26 h_56 h_57; omega) | omega⟩) (Or.inr (Or.inr ⟨by first | (clear h_1 h_2 h_3 h_4 h_5 h_6 h_7 h_8 h_9 h_10 h_13 h_14 h_15 h_16 h_17 h_18 h_19 h_20 h_21 h_23 h_24 h_25 h_32 h_35 h_36 h_37 h_38 h_40 h_41 h_46 h_47 h_49 h_50 h_52 h_53 h_55 h_58 h_67 h_26 h_56 h_57; omega) | omega, by first | (clear h_1 h_2 h_3 h_4 h_5 h_6 h_7 h_8 h_9 h_10 h_11 h_12 h_15 h_16 h_17 h_18 h_19 h_20 h_21 h_23 h_24 h_25 h_32 h_35 h_36 h_37 h_38 h_40 h_41 h_43 h_44 h_49 h_50 h_52 h_53 h_55 h_58 h_67 h_26 h_56 h_57; omega) | omega, by first | (clear h_1 h_2 h_3 h_4 h_5 h_6 h_7 h_8 h_9 h_10 h_11 h_12 h_13 h_14 h_17 h_18 h_19 h_20 h_21 h_23 h_24 h_25 h_32 h_35 h_36 h_37 h_38 h_40 h_41 h_43 h_44 h_46 h_47 h_52 h_53 h_55 h_58 h_67 h_26 h_56 h_57; omega) | omega, by first | (clear h_1 h_2 h_3 h_4 h_5 h_6 h_7 h_8 h_9 h_10 h_11 h_12 h_13 h_14 h_15 h_16 h_19 h_20 h_21 h_23 h_24 h_25 h_32 h_35 h_36 h_37 h_38 h_40 h_41 h_43 h_44 h_46 h_47 h_49 h_50 h_55 h_58 h_67 h_26 h_56 h_57; omega) | omega⟩)) (fun _ => ae_le hA_80 (by omega)) (fun _ => ae_le hA_83 (by omega)) (fun _ => ae_le hA_86 (by omega))
    · refine v_ic_ge_f (t := 22) rfl (by decide) ⟨by first | (clear h_1 h_2 h_3 h_4 h_5 h_6 h_7 h_8 h_9 h_10 h_11 h_12 h_13 h_14 h_15 h_16 h_17 h_18 h_19 h_20 h_21 h_23 h_25; omega) | omega, (Int.not_le.mp h_32), (Int.le_trans (rg_eq hg_e1 h_1).2 (by decide))⟩ ?_
      refine q_iconst rfl ?_
      refine q_goto (t := 23) rfl (by decide) ?_
      refine v_zret rfl rfl (by decide) ?_
      refine bk_inl ?_
      refine v_if_eq_f (t := 85) rfl (by decide) (by decide) ?_
      refine q_aload_n rfl rfl ?_
      refine v_cv rfl rfl rfl rfl (by decide) ⟨⟨rfl, rfl⟩, by decide, rfl⟩ (Nat.le_of_ble_eq_true rfl) (Nat.le_of_ble_eq_true rfl) (f_3 (e1 := e1) (a9 := (nx F e1 a)) (B := F) (r8 := (nx F e1 a)) hI_28 ((hid kn_31)) ((hz_30)) (fun j => ((hF_29 2 j (fun h => absurd h.1 (nn rfl))).trans (hFm 2 j (fun q => q.elim (fun h => absurd h.1 (nn rfl)) (fun q => q.elim (fun h => absurd h.1 (nn rfl)) (fun q => q.elim (fun h => absurd h.1 (nn rfl)) (fun q => q.elim (fun h => absurd h.1 (pn0 hA rfl)) (fun q => q.elim (fun h => absurd h.1 (pn0 hA rfl)) (fun q => q.elim (fun h => absurd h.1 (pn0 hA rfl)) (fun q => q.elim (fun h => absurd h.1 (pn0 hA rfl)) (fun q => q.elim (fun h => absurd h (pn hA rfl rfl)) (fun q => q.elim (fun h => absurd h (pn hA rfl rfl)) (fun q => q.elim (fun h => absurd h (pn hA rfl rfl)) (fun q => q.elim (fun h => absurd h.1 (pn0 hA rfl)) (fun q => q.elim (fun h => absurd h.1 (pn0 hA rfl)) (fun q => q.elim (fun h => absurd h (pn hA rfl rfl)) (fun h => absurd h.1 (pn hA rfl rfl))))))))))))))))).trans (hF j)) (nx_z (by omega)) (fun c_87 hI_88 hF_89 hz_90 => ?_))
      refine bk_inl ?_
      refine q_istore_n rfl (by decide) ?_
      refine q_aload_n rfl rfl ?_
      refine q_ldc_s rfl rfl rfl (by decide) ?_
      have kn_91 : Hid (c_87 1 1 = e1) := (hF_89 1 1 (fun h => absurd h.2 (ni rfl))).trans (hid kn_31)
      have kn_92 : Hid (c_27 1 4 = 0) := (hF_29 1 4 (fun h => absurd h.2 (ni rfl))).trans (hc_0)
      have kn_93 : Hid (c_87 1 4 = 0) := (hF_89 1 4 (fun h => absurd h.2 (ni rfl))).trans (hid kn_92)
      have kn_94 : Hid (c_27 1 5 = (-1)) := (hF_29 1 5 (fun h => absurd h.2 (ni rfl))).trans (hc_2)
      have kn_95 : Hid (c_87 1 5 = (-1)) := (hF_89 1 5 (fun h => absurd h.2 (ni rfl))).trans (hid kn_94)
      have h_96 := ln_be (b := F) (e := e1) (a := (nx F e1 a)) (by first | (clear h_1 h_2 h_3 h_4 h_5 h_6 h_7 h_8 h_9 h_10 h_11 h_12 h_13 h_14 h_15 h_16 h_17 h_18 h_19 h_20 h_21 h_23 h_24 h_25 h_26; omega) | omega)
      refine v_cv rfl rfl rfl rfl (by decide) ⟨⟨rfl, rfl⟩, by decide, rfl⟩ (Nat.le_of_ble_eq_true rfl) (Nat.le_of_ble_eq_true rfl) (f_10_8 (e1 := e1) (a9 := (nx F e1 a)) (f9 := 0) (p9 := (-1)) (B := F) (r8 := (nx F e1 a)) (L8 := (ln F e1 (nx F e1 a))) (W8 := (wd8_0 F (nx F e1 a) (ln F e1 (nx F e1 a)))) hI_88 ((hid kn_91)) ((hz_90)) ((hid kn_93)) ((hid kn_95)) (fun j => ((hF_89 2 j (fun h => absurd h.1 (nn rfl))).trans ((hF_29 2 j (fun h => absurd h.1 (nn rfl))).trans (hFm 2 j (fun q => q.elim (fun h => absurd h.1 (nn rfl)) (fun q => q.elim (fun h => absurd h.1 (nn rfl)) (fun q => q.elim (fun h => absurd h.1 (nn rfl)) (fun q => q.elim (fun h => absurd h.1 (pn0 hA rfl)) (fun q => q.elim (fun h => absurd h.1 (pn0 hA rfl)) (fun q => q.elim (fun h => absurd h.1 (pn0 hA rfl)) (fun q => q.elim (fun h => absurd h.1 (pn0 hA rfl)) (fun q => q.elim (fun h => absurd h (pn hA rfl rfl)) (fun q => q.elim (fun h => absurd h (pn hA rfl rfl)) (fun q => q.elim (fun h => absurd h (pn hA rfl rfl)) (fun q => q.elim (fun h => absurd h.1 (pn0 hA rfl)) (fun q => q.elim (fun h => absurd h.1 (pn0 hA rfl)) (fun q => q.elim (fun h => absurd h (pn hA rfl rfl)) (fun h => absurd h.1 (pn hA rfl rfl)))))))))))))))))).trans (hF j)) (nx_z (by omega)) rfl rfl (fun c_97 hI_98 hF_99 h_100 hz_101 hz_102 hz_103 => by exfalso; first | (clear h_1 h_2 h_3 h_4 h_5 h_6 h_7 h_8 h_9 h_10 h_11 h_12 h_13 h_14 h_15 h_16 h_17 h_18 h_19 h_20 h_21 h_23 h_24 h_25 h_96 h_26; omega) | omega) (fun c_104 hI_105 hF_106 h_107 h_108 hz_109 hz_110 hz_111 => ?_) (fun c_112 hI_113 hF_114 h_115 h_116 hz_117 hz_118 hz_119 => ?_))
      · as_aux_lemma =>
          skip
          refine bk_inl ?_
          refine q_istore rfl (by decide) ?_
          refine q_iload rfl rfl ?_
          refine q_iconst rfl ?_
          refine v_ic_eq_t (t := 59) rfl (by decide) (by decide) ?_
          refine q_aload_n rfl rfl ?_
          refine v_cv rfl rfl rfl rfl (by decide) ⟨⟨rfl, rfl⟩, by decide, rfl⟩ (Nat.le_of_ble_eq_true rfl) (Nat.le_of_ble_eq_true rfl) ?_
          refine q_aload_n rfl rfl ?_
          refine v_gi (z := 4) (v := 1) rfl rfl rfl (by decide) rfl rfl (hz_110) ?_
          refine v_if_ne_t (t := 11) rfl (by decide) (by decide) ?_
          refine q_iconst rfl ?_
          refine v_zret rfl rfl (by decide) ?_
          refine bk_inl ?_
          refine v_if_eq_t (t := 73) rfl (by decide) (by decide) ?_
          refine q_aload_n rfl rfl ?_
          refine q_ldc_s rfl rfl rfl (by decide) ?_
          refine v_cv rfl rfl rfl rfl (by decide) ⟨⟨rfl, rfl⟩, by decide, rfl⟩ (Nat.le_of_ble_eq_true rfl) (Nat.le_of_ble_eq_true rfl) ?_
          refine q_aload_n rfl rfl ?_
          refine v_cv rfl rfl rfl rfl (by decide) ⟨⟨rfl, rfl⟩, by decide, rfl⟩ (Nat.le_of_ble_eq_true rfl) (Nat.le_of_ble_eq_true rfl) ?_
          refine q_aload_n rfl rfl ?_
          refine v_gi (z := 4) (v := 1) rfl rfl rfl (by decide) rfl rfl (hz_110) ?_
          refine v_if_ne_t (t := 11) rfl (by decide) (by decide) ?_
          refine q_iconst rfl ?_
          refine v_zret rfl rfl (by decide) ?_
          refine bk_inl ?_
          refine v_if_eq_t (t := 25) rfl (by decide) (by decide) ?_
          refine q_vret rfl rfl ?_
          refine bk_inl ?_
          refine v_iinc (v := v + 1) rfl rfl (by decide) rfl ?_
          refine q_goto (t := 6) rfl (by decide) ?_
          refine q_iload_n rfl rfl ?_
          refine v_bip rfl (by decide) ?_
          by_cases h_120 : v + 1 > 60
          · refine v_ic_gt_t (t := 85) rfl (by decide) ⟨by decide, h_120, by first | exact rgp_h hv.2 (by decide) | omega⟩ ?_
            refine q_vret rfl rfl ?_
            intro hE_121
            have hW : Wd P Q P P c_104 = Wd P Q P P m9 := (Prod.mk.inj (Prod.mk.inj hE_121).2).1
            have h_122 := ir_1_4 hJ9
            have h_123 : m9 1 4 = 1 := wd_fv (z := 4) 4 rfl hW rfl rfl rfl rfl (by decide) (hz_110) ⟨by decide, by decide⟩ ⟨(Int.le_trans (by decide) h_122.1), (Int.le_trans h_122.2 (by decide))⟩
            have h_124 := ir_1_2 hJ9
            have h_125 : m9 1 2 = (nx F e1 a) := wd_fv (z := 2) 2 rfl hW rfl rfl rfl rfl (by decide) (hz_109) ⟨by first | (clear h_1 h_2 h_3 h_4 h_5 h_6 h_7 h_8 h_9 h_10 h_11 h_12 h_13 h_14 h_15 h_16 h_17 h_18 h_19 h_20 h_21 h_23 h_25 h_107 h_108 h_120 h_122 h_123 h_124; omega) | omega, by first | (clear h_3 h_4 h_5 h_6 h_7 h_8 h_11 h_12 h_13 h_14 h_15 h_16 h_17 h_18 h_19 h_20 h_21 h_23 h_107 h_108 h_120 h_122 h_123 h_124; omega) | omega⟩ ⟨(Int.le_trans (by decide) h_124.1), (Int.le_trans h_124.2 (by decide))⟩
            have h_126 := ir_1_5 hJ9
            have h_127 : m9 1 5 = (nx F e1 a) := wd_fv (z := 5) 5 rfl hW rfl rfl rfl rfl (by decide) (hz_111) ⟨by first | (clear h_1 h_2 h_3 h_4 h_5 h_6 h_7 h_8 h_9 h_10 h_11 h_12 h_13 h_14 h_15 h_16 h_17 h_18 h_19 h_20 h_21 h_23 h_25 h_107 h_108 h_120 h_122 h_123 h_124 h_126; omega) | omega, by first | (clear h_3 h_4 h_5 h_6 h_7 h_8 h_11 h_12 h_13 h_14 h_15 h_16 h_17 h_18 h_19 h_20 h_21 h_23 h_107 h_108 h_120 h_122 h_123 h_126; omega) | omega⟩ ⟨(Int.le_trans (by decide) h_126.1), (Int.le_trans h_126.2 (by decide))⟩
            have kn_128 : Hid (c_27 A 0 = jr) := (hF_29 A 0 (fun h => absurd h.1 (np0 hA rfl))).trans (hg_jr)
            have kn_129 : Hid (c_87 A 0 = jr) := (hF_89 A 0 (fun h => absurd h.1 (np0 hA rfl))).trans (hid kn_128)
            have kn_130 : Hid (c_104 A 0 = jr) := (hF_106 A 0 (fun q => q.elim (fun h => absurd h.1 (np0 hA rfl)) (fun q => q.elim (fun h => absurd h.1 (np0 hA rfl)) (fun h => absurd h.1 (np0 hA rfl))))).trans (hid kn_129)
            have h_131 := ir_p0_0 hJ9 hA
            have h_132 : m9 A 0 = jr := wd_fv (z := 0) 0 rfl hW (ck_p0 hA) (ck_p0 hA) rfl rfl (by omega) (hid kn_130) ⟨(Int.le_trans (by decide) hjr.1), (Int.le_trans hjr.2 (by decide))⟩ ⟨(Int.le_trans (by decide) h_131.1), (Int.le_trans h_131.2 (by decide))⟩
            have kn_133 : Hid (c_27 A 1 = st) := (hF_29 A 1 (fun h => absurd h.1 (np0 hA rfl))).trans (hg_st)
            have kn_134 : Hid (c_87 A 1 = st) := (hF_89 A 1 (fun h => absurd h.1 (np0 hA rfl))).trans (hid kn_133)
            have kn_135 : Hid (c_104 A 1 = st) := (hF_106 A 1 (fun q => q.elim (fun h => absurd h.1 (np0 hA rfl)) (fun q => q.elim (fun h => absurd h.1 (np0 hA rfl)) (fun h => absurd h.1 (np0 hA rfl))))).trans (hid kn_134)
            have h_136 := ir_p0_1 hJ9 hA
            have h_137 : m9 A 1 = st := wd_fv (z := 1) 1 rfl hW (ck_p0 hA) (ck_p0 hA) rfl rfl (by omega) (hid kn_135) ⟨(Int.le_trans (by decide) hst.1), (Int.le_trans hst.2 (by decide))⟩ ⟨(Int.le_trans (by decide) h_136.1), (Int.le_trans h_136.2 (by decide))⟩
            have kn_138 : Hid (c_27 A 2 = si) := (hF_29 A 2 (fun h => absurd h.1 (np0 hA rfl))).trans (hg_si)
            have kn_139 : Hid (c_87 A 2 = si) := (hF_89 A 2 (fun h => absurd h.1 (np0 hA rfl))).trans (hid kn_138)
            have kn_140 : Hid (c_104 A 2 = si) := (hF_106 A 2 (fun q => q.elim (fun h => absurd h.1 (np0 hA rfl)) (fun q => q.elim (fun h => absurd h.1 (np0 hA rfl)) (fun h => absurd h.1 (np0 hA rfl))))).trans (hid kn_139)
            have h_141 := ir_p0_2 hJ9 hA
            have h_142 : m9 A 2 = si := wd_fv (z := 2) 2 rfl hW (ck_p0 hA) (ck_p0 hA) rfl rfl (by omega) (hid kn_140) ⟨(Int.le_trans (by decide) hsi.1), (Int.le_trans hsi.2 (by decide))⟩ ⟨(Int.le_trans (by decide) h_141.1), (Int.le_trans h_141.2 (by decide))⟩
            have kn_143 : Hid (c_27 A 3 = du) := (hF_29 A 3 (fun h => absurd h.1 (np0 hA rfl))).trans (hg_du)
            have kn_144 : Hid (c_87 A 3 = du) := (hF_89 A 3 (fun h => absurd h.1 (np0 hA rfl))).trans (hid kn_143)
            have kn_145 : Hid (c_104 A 3 = du) := (hF_106 A 3 (fun q => q.elim (fun h => absurd h.1 (np0 hA rfl)) (fun q => q.elim (fun h => absurd h.1 (np0 hA rfl)) (fun h => absurd h.1 (np0 hA rfl))))).trans (hid kn_144)
            have h_146 := ir_p0_3 hJ9 hA
            have h_147 : m9 A 3 = du := wd_fv (z := 3) 3 rfl hW (ck_p0 hA) (ck_p0 hA) rfl rfl (by omega) (hid kn_145) ⟨(Int.le_trans (by decide) hdu.1), (Int.le_trans hdu.2 (by decide))⟩ ⟨(Int.le_trans (by decide) h_146.1), (Int.le_trans h_146.2 (by decide))⟩
            refine q_aload_n rfl rfl ?_
            refine v_cv rfl rfl rfl rfl (by decide) ⟨⟨rfl, rfl⟩, by decide, rfl⟩ (Nat.le_of_ble_eq_true rfl) (Nat.le_of_ble_eq_true rfl) ?_
            refine q_aload_n rfl rfl ?_
            refine v_gi (z := 5) (v := (-1)) rfl rfl rfl (by decide) rfl rfl (hc_1) ?_
            refine q_iconst rfl ?_
            refine v_ic_ne_f (t := 12) rfl (by decide) (by decide) ?_
            refine q_iconst rfl ?_
            refine q_goto (t := 13) rfl (by decide) ?_
            refine v_zret rfl rfl (by decide) ?_
            refine bk_inl ?_
            refine v_if_eq_f (t := 136) rfl (by decide) (by decide) ?_
            refine q_aload_n rfl rfl ?_
            refine v_cv rfl rfl rfl rfl (by decide) ⟨⟨rfl, rfl⟩, by decide, rfl⟩ (Nat.le_of_ble_eq_true rfl) (Nat.le_of_ble_eq_true rfl) ?_
            refine q_aload_n rfl rfl ?_
            have kn_148 : Hid (c2 41 3 = e1) := (hFc 41 3 (fun q => q.elim (fun h => absurd h.2 (ni rfl)) (fun q => q.elim (fun h => absurd h.2 (ni rfl)) (fun q => q.elim (fun h => absurd h.2 (ni rfl)) (fun q => q.elim (fun h => absurd h.2 (ni rfl)) (fun q => q.elim (fun h => absurd h.2 (ni rfl)) (fun q => q.elim (fun h => absurd h.2 (ni rfl)) (fun q => q.elim (fun h => absurd h.2 (ni rfl)) (fun q => q.elim (fun h => absurd h (nn rfl)) (fun q => q.elim (fun h => absurd h (nn rfl)) (fun h => absurd h (nn rfl)))))))))))).trans (hr_e1)
            have h_149 : -2147483648 ≤ (H (nx F e1 a)) ∧ (H (nx F e1 a)) ≤ 2147483647 := by rw [← hH (nx F e1 a)]; exact ir_43 hI (nx F e1 a)
            have h_150 := hU (nx F e1 a) (by omega) (by omega)
            have h_151 := hb_or (b := H) (e := e1) (r := (nx F e1 a))
            have h_152 := hb_bd (b := H) (e := e1) (r := (nx F e1 a)) (lo := -2147483648) (hi := 2147483647) ⟨by omega, by omega⟩ (by decide)
            refine v_cv rfl rfl rfl rfl (by decide) ⟨⟨rfl, rfl⟩, by decide, rfl⟩ (Nat.le_of_ble_eq_true rfl) (Nat.le_of_ble_eq_true rfl) (f_154 (e1 := e1) (a9 := a) (B := H) (r8 := (nx F e1 a)) (r := (hb H e1 (nx F e1 a))) hI2 ((hid kn_148)) ((hr_a)) (fun j => (hFc 43 j (fun q => q.elim (fun h => absurd h.1 (nn rfl)) (fun q => q.elim (fun h => absurd h.1 (nn rfl)) (fun q => q.elim (fun h => absurd h.1 (nn rfl)) (fun q => q.elim (fun h => absurd h.1 (nn rfl)) (fun q => q.elim (fun h => absurd h.1 (nn rfl)) (fun q => q.elim (fun h => absurd h.1 (nn rfl)) (fun q => q.elim (fun h => absurd h.1 (nn rfl)) (fun q => q.elim (fun h => absurd h (nn rfl)) (fun q => q.elim (fun h => absurd h (nn rfl)) (fun h => absurd h (nn rfl)))))))))))).trans (hH j)) ((nx_tr hU (by first | (clear h_1 h_2 h_3 h_4 h_5 h_6 h_7 h_8 h_9 h_10 h_11 h_12 h_13 h_14 h_15 h_16 h_17 h_18 h_19 h_20 h_21 h_23 h_24 h_25 h_96 h_107 h_108 h_120 h_122 h_123 h_124 h_125 h_126 h_127 h_131 h_132 h_136 h_137 h_141 h_142 h_146 h_147 h_26; omega) | omega) (by first | (clear h_3 h_4 h_5 h_6 h_7 h_8 h_9 h_10 h_11 h_12 h_13 h_14 h_15 h_16 h_17 h_18 h_19 h_20 h_21 h_23 h_25 h_107 h_108 h_120 h_122 h_123 h_124 h_125 h_126 h_127 h_131 h_132 h_136 h_137 h_141 h_142 h_146 h_147; omega) | omega)).trans (rfl)) rfl (fun c_153 hI_154 hF_155 h_156 => ?_))
            refine bk_inl ?_
            refine q_pop rfl rfl ?_
            refine q_aload_n rfl rfl ?_
            refine v_gi (z := 4) (v := (nx F e1 a)) rfl rfl rfl (by decide) rfl rfl (h_156) ?_
            refine q_aload_n rfl rfl ?_
            have kn_157 : Hid (c_153 41 3 = e1) := (hF_155 41 3 (fun h => absurd h.2 (ni rfl))).trans (hid kn_148)
            refine v_gi (z := 3) (v := e1) rfl rfl rfl (by decide) rfl rfl (hid kn_157) ?_
            refine v_ic_ge_f (t := 20) rfl (by decide) ⟨by first | (clear h_1 h_2 h_3 h_4 h_5 h_6 h_7 h_8 h_9 h_10 h_11 h_12 h_13 h_14 h_15 h_16 h_17 h_18 h_19 h_20 h_21 h_23 h_25 h_107 h_108 h_120 h_122 h_123 h_124 h_126 h_131 h_132 h_136 h_137 h_141 h_142 h_146 h_147 h_149 h_150 h_152; omega) | omega, by first | (clear h_1 h_2 h_3 h_4 h_5 h_6 h_7 h_8 h_9 h_10 h_11 h_12 h_13 h_14 h_15 h_16 h_17 h_18 h_19 h_20 h_21 h_23 h_24 h_25 h_96 h_107 h_108 h_120 h_122 h_123 h_124 h_125 h_126 h_127 h_131 h_132 h_136 h_137 h_141 h_142 h_146 h_147 h_149 h_150 h_152 h_26 h_151; omega) | omega, (Int.le_trans (rg_eq hg_e1 h_1).2 (by decide))⟩ ?_
            refine q_iconst rfl ?_
            refine q_goto (t := 21) rfl (by decide) ?_
            refine v_zret rfl rfl (by decide) ?_
            refine bk_inl ?_
            refine v_if_eq_f (t := 136) rfl (by decide) (by decide) ?_
            refine q_aload_n rfl rfl ?_
            have h_158 := wv_bd (b := F) (r := (nx F e1 a)) (l := (ln F e1 (nx F e1 a))) (fun j h1 h2 => ⟨(ln_in (e := e1) (a := (nx F e1 a)) h1 h2).1, (ln_in (e := e1) (a := (nx F e1 a)) h1 h2).2.1⟩)
            have hw_159 : Hid (¬ wv F (nx F e1 a) (ln F e1 (nx F e1 a)) = 10290 ∧ ¬ wv F (nx F e1 a) (ln F e1 (nx F e1 a)) = 20594117 ∧ ¬ wv F (nx F e1 a) (ln F e1 (nx F e1 a)) = 20223685 ∧ ¬ wv F (nx F e1 a) (ln F e1 (nx F e1 a)) = 153204) := wr8_4 (b := F) (r := (nx F e1 a)) (l := (ln F e1 (nx F e1 a))) (by omega) (fun j h1 h2 => ⟨(ln_in (e := e1) (a := (nx F e1 a)) h1 h2).1, (ln_in (e := e1) (a := (nx F e1 a)) h1 h2).2.1⟩) (by omega)
            refine v_cv rfl rfl rfl rfl (by decide) ⟨⟨rfl, rfl⟩, by decide, rfl⟩ (Nat.le_of_ble_eq_true rfl) (Nat.le_of_ble_eq_true rfl) (f_157 (e1 := e1) (a9 := (nx F e1 a)) (B := H) (r8 := (nx F e1 a)) (L8 := (ln F e1 (nx F e1 a))) (W8 := (wv F (nx F e1 a) (ln F e1 (nx F e1 a)))) hI_154 ((hid kn_157)) ((h_156)) (fun j => ((hF_155 43 j (fun h => absurd h.1 (nn rfl))).trans (hFc 43 j (fun q => q.elim (fun h => absurd h.1 (nn rfl)) (fun q => q.elim (fun h => absurd h.1 (nn rfl)) (fun q => q.elim (fun h => absurd h.1 (nn rfl)) (fun q => q.elim (fun h => absurd h.1 (nn rfl)) (fun q => q.elim (fun h => absurd h.1 (nn rfl)) (fun q => q.elim (fun h => absurd h.1 (nn rfl)) (fun q => q.elim (fun h => absurd h.1 (nn rfl)) (fun q => q.elim (fun h => absurd h (nn rfl)) (fun q => q.elim (fun h => absurd h (nn rfl)) (fun h => absurd h (nn rfl))))))))))))).trans (hH j)) ((nx_tr hU (by first | (clear h_1 h_2 h_3 h_4 h_5 h_6 h_7 h_8 h_9 h_10 h_11 h_12 h_13 h_14 h_15 h_16 h_17 h_18 h_19 h_20 h_21 h_23 h_25 h_107 h_108 h_120 h_122 h_123 h_124 h_126 h_131 h_132 h_136 h_137 h_141 h_142 h_146 h_147 h_149 h_150 h_152; omega) | omega) (by first | (clear h_3 h_4 h_5 h_6 h_7 h_8 h_9 h_10 h_11 h_12 h_13 h_14 h_15 h_16 h_17 h_18 h_19 h_20 h_21 h_23 h_25 h_107 h_108 h_120 h_122 h_123 h_124 h_125 h_126 h_127 h_131 h_132 h_136 h_137 h_141 h_142 h_146 h_147 h_149 h_150 h_152; omega) | omega)).trans ((nx_z (by omega)))) ((ln_tr hU (by first | (clear h_1 h_2 h_3 h_4 h_5 h_6 h_7 h_8 h_9 h_10 h_11 h_12 h_13 h_14 h_15 h_16 h_17 h_18 h_19 h_20 h_21 h_23 h_25 h_107 h_108 h_120 h_122 h_123 h_124 h_126 h_131 h_132 h_136 h_137 h_141 h_142 h_146 h_147 h_149 h_150 h_152; omega) | omega) (by first | (clear h_3 h_4 h_5 h_6 h_7 h_8 h_9 h_10 h_11 h_12 h_13 h_14 h_15 h_16 h_17 h_18 h_19 h_20 h_21 h_23 h_25 h_107 h_108 h_120 h_122 h_123 h_124 h_125 h_126 h_127 h_131 h_132 h_136 h_137 h_141 h_142 h_146 h_147 h_149 h_150 h_152; omega) | omega)).trans (rfl)) ((wv_tr hU (by first | (clear h_1 h_2 h_3 h_4 h_5 h_6 h_7 h_8 h_9 h_10 h_11 h_12 h_13 h_14 h_15 h_16 h_17 h_18 h_19 h_20 h_21 h_23 h_25 h_107 h_108 h_120 h_122 h_123 h_124 h_126 h_131 h_132 h_136 h_137 h_141 h_142 h_146 h_147 h_149 h_150 h_152 h_158 hw_159; omega) | omega) (by first | (clear h_3 h_4 h_5 h_6 h_7 h_8 h_9 h_10 h_11 h_12 h_13 h_14 h_15 h_16 h_17 h_18 h_19 h_20 h_21 h_23 h_25 h_107 h_108 h_120 h_122 h_123 h_124 h_126 h_131 h_132 h_136 h_137 h_141 h_142 h_146 h_147 h_149 h_150 h_152 h_158 hw_159; omega) | omega) (fun j h1 h2 => ⟨(ln_in (e := e1) (a := (nx F e1 a)) h1 h2).1, (ln_in (e := e1) (a := (nx F e1 a)) h1 h2).2.1⟩)).trans (rfl)) (fun c_160 hI_161 hF_162 hz_163 => ?_))
            refine bk_inl ?_
            refine q_istore_n rfl (by decide) ?_
            refine q_iload_n rfl rfl ?_
            refine q_call rfl rfl rfl rfl ?_
            refine q_iload_n rfl rfl ?_
            refine q_ldc_s rfl rfl rfl (by decide) ?_
            refine q_call rfl rfl rfl rfl (s_158_16 ?_)
            refine bk_inl ?_
            refine v_ic_eq_f (t := 36) rfl (by decide) ⟨(hid hw_159).1, ⟨by first | (clear h_1 h_2 h_3 h_4 h_5 h_6 h_7 h_8 h_9 h_10 h_11 h_12 h_13 h_14 h_15 h_16 h_17 h_18 h_19 h_20 h_21 h_23 h_24 h_25 h_96 h_107 h_108 h_120 h_122 h_123 h_124 h_125 h_126 h_127 h_131 h_132 h_136 h_137 h_141 h_142 h_146 h_147 h_149 h_150 h_152 h_26 h_151; omega) | omega, by first | (clear h_1 h_2 h_3 h_4 h_5 h_6 h_7 h_8 h_9 h_10 h_11 h_12 h_13 h_14 h_15 h_16 h_17 h_18 h_19 h_20 h_21 h_23 h_24 h_25 h_96 h_107 h_108 h_120 h_122 h_123 h_124 h_125 h_126 h_127 h_131 h_132 h_136 h_137 h_141 h_142 h_146 h_147 h_149 h_150 h_152 h_26 h_151; omega) | omega⟩, by decide, by decide⟩ ?_
            refine q_iload_n rfl rfl ?_
            refine q_ldc_s rfl rfl rfl (by decide) ?_
            refine q_call rfl rfl rfl rfl (s_158_17 ?_)
            refine bk_inl ?_
            refine v_ic_eq_f (t := 36) rfl (by decide) ⟨(hid hw_159).2.1, ⟨by first | (clear h_1 h_2 h_3 h_4 h_5 h_6 h_7 h_8 h_9 h_10 h_11 h_12 h_13 h_14 h_15 h_16 h_17 h_18 h_19 h_20 h_21 h_23 h_24 h_25 h_96 h_107 h_108 h_120 h_122 h_123 h_124 h_125 h_126 h_127 h_131 h_132 h_136 h_137 h_141 h_142 h_146 h_147 h_149 h_150 h_152 h_26 h_151; omega) | omega, by first | (clear h_1 h_2 h_3 h_4 h_5 h_6 h_7 h_8 h_9 h_10 h_11 h_12 h_13 h_14 h_15 h_16 h_17 h_18 h_19 h_20 h_21 h_23 h_24 h_25 h_96 h_107 h_108 h_120 h_122 h_123 h_124 h_125 h_126 h_127 h_131 h_132 h_136 h_137 h_141 h_142 h_146 h_147 h_149 h_150 h_152 h_26 h_151; omega) | omega⟩, by decide, by decide⟩ ?_
            refine q_iload_n rfl rfl ?_
            refine q_ldc_s rfl rfl rfl (by decide) ?_
            refine q_call rfl rfl rfl rfl (s_158_18 ?_)
            refine bk_inl ?_
            refine v_ic_eq_f (t := 36) rfl (by decide) ⟨(hid hw_159).2.2.1, ⟨by first | (clear h_1 h_2 h_3 h_4 h_5 h_6 h_7 h_8 h_9 h_10 h_11 h_12 h_13 h_14 h_15 h_16 h_17 h_18 h_19 h_20 h_21 h_23 h_24 h_25 h_96 h_107 h_108 h_120 h_122 h_123 h_124 h_125 h_126 h_127 h_131 h_132 h_136 h_137 h_141 h_142 h_146 h_147 h_149 h_150 h_152 h_26 h_151; omega) | omega, by first | (clear h_1 h_2 h_3 h_4 h_5 h_6 h_7 h_8 h_9 h_10 h_11 h_12 h_13 h_14 h_15 h_16 h_17 h_18 h_19 h_20 h_21 h_23 h_24 h_25 h_96 h_107 h_108 h_120 h_122 h_123 h_124 h_125 h_126 h_127 h_131 h_132 h_136 h_137 h_141 h_142 h_146 h_147 h_149 h_150 h_152 h_26 h_151; omega) | omega⟩, by decide, by decide⟩ ?_
            refine q_iload_n rfl rfl ?_
            refine q_ldc_s rfl rfl rfl (by decide) ?_
            refine q_call rfl rfl rfl rfl (s_158_19 ?_)
            refine bk_inl ?_
            refine v_ic_ne_t (t := 40) rfl (by decide) ⟨(hid hw_159).2.2.2, ⟨by first | (clear h_1 h_2 h_3 h_4 h_5 h_6 h_7 h_8 h_9 h_10 h_11 h_12 h_13 h_14 h_15 h_16 h_17 h_18 h_19 h_20 h_21 h_23 h_24 h_25 h_96 h_107 h_108 h_120 h_122 h_123 h_124 h_125 h_126 h_127 h_131 h_132 h_136 h_137 h_141 h_142 h_146 h_147 h_149 h_150 h_152 h_26 h_151; omega) | omega, by first | (clear h_1 h_2 h_3 h_4 h_5 h_6 h_7 h_8 h_9 h_10 h_11 h_12 h_13 h_14 h_15 h_16 h_17 h_18 h_19 h_20 h_21 h_23 h_24 h_25 h_96 h_107 h_108 h_120 h_122 h_123 h_124 h_125 h_126 h_127 h_131 h_132 h_136 h_137 h_141 h_142 h_146 h_147 h_149 h_150 h_152 h_26 h_151; omega) | omega⟩, by decide, by decide⟩ ?_
            refine q_iconst rfl ?_
            refine v_zret rfl rfl (by decide) ?_
            refine bk_inl ?_
            refine v_if_ne_f (t := 82) rfl (by decide) (by decide) ?_
            refine q_aload_n rfl rfl ?_
            refine q_iconst rfl ?_
            refine q_aload_n rfl rfl ?_
            refine v_gi (z := 4) (v := (nx F e1 a)) rfl rfl rfl (by decide) rfl rfl (hz_163) ?_
            refine v_cv rfl rfl rfl rfl (by decide) ⟨⟨rfl, rfl⟩, by decide, rfl⟩ (Nat.le_of_ble_eq_true rfl) (Nat.le_of_ble_eq_true rfl) ?_
            refine q_aload_n rfl rfl ?_
            have kn_164 : Hid (c_153 41 5 = (-1)) := (hF_155 41 5 (fun h => absurd h.2 (ni rfl))).trans (hc_1)
            have kn_165 : Hid (c_160 41 5 = (-1)) := (hF_162 41 5 (fun h => absurd h.2 (ni rfl))).trans (hid kn_164)
            refine v_gi (z := 5) (v := (-1)) rfl rfl rfl (by decide) rfl rfl (hid kn_165) ?_
            refine q_iconst rfl ?_
            refine v_ic_eq_t (t := 9) rfl (by decide) (by decide) ?_
            refine q_aload_n rfl rfl ?_
            refine q_iload_n rfl rfl ?_
            refine v_pi (z := 5) rfl rfl rfl (by decide) rfl rfl rfl (by decide) ?_
            refine q_aload_n rfl rfl ?_
            refine q_iload_n rfl rfl ?_
            refine v_pi (z := 6) rfl rfl rfl (by decide) rfl rfl rfl (by decide) ?_
            refine q_vret rfl rfl ?_
            refine bk_inl ?_
            refine q_goto (t := 105) rfl (by decide) ?_
            refine q_aload_n rfl rfl ?_
            refine v_cv rfl rfl rfl rfl (by decide) ⟨⟨rfl, rfl⟩, by decide, rfl⟩ (Nat.le_of_ble_eq_true rfl) (Nat.le_of_ble_eq_true rfl) ?_
            refine q_aload_n rfl rfl ?_
            refine v_gi (z := 5) (v := (nx F e1 a)) rfl rfl rfl (by decide) rfl rfl ((up_n (by decide)).trans (up_e rfl)) ?_
            refine q_iconst rfl ?_
            refine v_ic_ne_t (t := 12) rfl (by decide) ⟨by first | (clear h_1 h_2 h_3 h_4 h_5 h_6 h_7 h_8 h_9 h_10 h_11 h_12 h_13 h_14 h_15 h_16 h_17 h_18 h_19 h_20 h_21 h_23 h_25 h_107 h_108 h_120 h_122 h_123 h_124 h_126 h_131 h_132 h_136 h_137 h_141 h_142 h_146 h_147 h_149 h_150 h_152 h_158 hw_159; omega) | omega, ⟨by first | (clear h_1 h_2 h_3 h_4 h_5 h_6 h_7 h_8 h_9 h_10 h_11 h_12 h_13 h_14 h_15 h_16 h_17 h_18 h_19 h_20 h_21 h_23 h_25 h_107 h_108 h_120 h_122 h_123 h_124 h_126 h_131 h_132 h_136 h_137 h_141 h_142 h_146 h_147 h_149 h_150 h_152 h_158 hw_159; omega) | omega, by first | (clear h_3 h_4 h_5 h_6 h_7 h_8 h_11 h_12 h_13 h_14 h_15 h_16 h_17 h_18 h_19 h_20 h_21 h_23 h_107 h_108 h_120 h_122 h_123 h_131 h_132 h_136 h_137 h_141 h_142 h_146 h_147 h_158 hw_159; omega) | omega⟩, by decide, by decide⟩ ?_
            refine q_iconst rfl ?_
            refine v_zret rfl rfl (by decide) ?_
            refine bk_inl ?_
            refine v_if_ne_f (t := 115) rfl (by decide) (by decide) ?_
            refine q_goto (t := 136) rfl (by decide) ?_
            refine Wp_ls [(0, .ref 41), (1, vi a1)] (lsub_cons rfl (lsub_cons rfl lsub_nil)) ?_
            have hI_166 := iw_41_5 (v := (nx F e1 a)) hI_161 ⟨by first | (clear h_1 h_2 h_3 h_4 h_5 h_6 h_7 h_8 h_9 h_10 h_11 h_12 h_13 h_14 h_15 h_16 h_17 h_18 h_19 h_20 h_21 h_23 h_25 h_107 h_108 h_120 h_122 h_123 h_124 h_126 h_131 h_132 h_136 h_137 h_141 h_142 h_146 h_147 h_149 h_150 h_152 h_158 hw_159; omega) | omega, by first | (clear h_3 h_4 h_5 h_6 h_7 h_8 h_11 h_12 h_13 h_14 h_15 h_16 h_17 h_18 h_19 h_20 h_21 h_23 h_107 h_108 h_120 h_122 h_123 h_131 h_132 h_136 h_137 h_141 h_142 h_146 h_147 h_158 hw_159; omega) | omega⟩
            have hI_167 := iw_41_6 (v := 1) hI_166 ⟨by decide, by decide⟩
            have h_168 : (up (up c_160 41 5 (nx F e1 a)) 41 6 1) 41 5 = (nx F e1 a) := ((up_n (by decide)).trans (up_e rfl))
            have h_169 : (up (up c_160 41 5 (nx F e1 a)) 41 6 1) 41 4 = (nx F e1 a) := ((up_n (by decide)).trans ((up_n (by decide)).trans (hz_163)))
            have h_170 : (up (up c_160 41 5 (nx F e1 a)) 41 6 1) 41 6 = 1 := (up_e rfl)
            have kn_171 : Hid (c_153 41 16 = jr) := (hF_155 41 16 (fun h => absurd h.2 (ni rfl))).trans (hr_jr)
            have kn_172 : Hid (c_160 41 16 = jr) := (hF_162 41 16 (fun h => absurd h.2 (ni rfl))).trans (hid kn_171)
            have h_173 : (up (up c_160 41 5 (nx F e1 a)) 41 6 1) 41 16 = jr := ((up_n (by decide)).trans ((up_n (by decide)).trans (hid kn_172)))
            have kn_174 : Hid (c_153 41 17 = st) := (hF_155 41 17 (fun h => absurd h.2 (ni rfl))).trans (hr_st)
            have kn_175 : Hid (c_160 41 17 = st) := (hF_162 41 17 (fun h => absurd h.2 (ni rfl))).trans (hid kn_174)
            have h_176 : (up (up c_160 41 5 (nx F e1 a)) 41 6 1) 41 17 = st := ((up_n (by decide)).trans ((up_n (by decide)).trans (hid kn_175)))
            have kn_177 : Hid (c_153 41 18 = si) := (hF_155 41 18 (fun h => absurd h.2 (ni rfl))).trans (hr_si)
            have kn_178 : Hid (c_160 41 18 = si) := (hF_162 41 18 (fun h => absurd h.2 (ni rfl))).trans (hid kn_177)
            have h_179 : (up (up c_160 41 5 (nx F e1 a)) 41 6 1) 41 18 = si := ((up_n (by decide)).trans ((up_n (by decide)).trans (hid kn_178)))
            have kn_180 : Hid (c_153 41 19 = du) := (hF_155 41 19 (fun h => absurd h.2 (ni rfl))).trans (hr_du)
            have kn_181 : Hid (c_160 41 19 = du) := (hF_162 41 19 (fun h => absurd h.2 (ni rfl))).trans (hid kn_180)
            have h_182 : (up (up c_160 41 5 (nx F e1 a)) 41 6 1) 41 19 = du := ((up_n (by decide)).trans ((up_n (by decide)).trans (hid kn_181)))
            have h_183 : (up (up c_160 41 5 (nx F e1 a)) 41 6 1) 41 16 = jr := ((up_n (by decide)).trans ((up_n (by decide)).trans (hid kn_172)))
            have h_184 : (up (up c_160 41 5 (nx F e1 a)) 41 6 1) 41 17 = st := ((up_n (by decide)).trans ((up_n (by decide)).trans (hid kn_175)))
            have h_185 : (up (up c_160 41 5 (nx F e1 a)) 41 6 1) 41 18 = si := ((up_n (by decide)).trans ((up_n (by decide)).trans (hid kn_178)))
            exact K (up (up c_160 41 5 (nx F e1 a)) 41 6 1)  hI_167 (fun a j hm => (up_b (Decidable.or_iff_not_imp_left.mpr (fun h1 h2 => hm (Or.inr (Or.inr (Or.inl ⟨Decidable.not_not.mp h1, h2⟩)))))).trans ((up_b (Decidable.or_iff_not_imp_left.mpr (fun h1 h2 => hm (Or.inr (Or.inl ⟨Decidable.not_not.mp h1, h2⟩))))).trans ((hF_162 a j (fun h => hm (Or.inl h))).trans ((hF_155 a j (fun h => hm (Or.inl h))).trans (hFc a j (fun q => q.elim (fun h => hm (Or.inl h)) (fun q => q.elim (fun h => hm (Or.inr (Or.inl h))) (fun q => q.elim (fun h => hm (Or.inr (Or.inr (Or.inl h)))) (fun q => q.elim (fun h => hm (Or.inr (Or.inr (Or.inr (Or.inl h))))) (fun q => q.elim (fun h => hm (Or.inr (Or.inr (Or.inr (Or.inr (Or.inl h)))))) (fun q => q.elim (fun h => hm (Or.inr (Or.inr (Or.inr (Or.inr (Or.inr (Or.inl h))))))) (fun q => q.elim (fun h => hm (Or.inr (Or.inr (Or.inr (Or.inr (Or.inr (Or.inr (Or.inl h)))))))) (fun q => q.elim (fun h => hm (Or.inr (Or.inr (Or.inr (Or.inr (Or.inr (Or.inr (Or.inr (Or.inl h))))))))) (fun q => q.elim (fun h => hm (Or.inr (Or.inr (Or.inr (Or.inr (Or.inr (Or.inr (Or.inr (Or.inr (Or.inl h)))))))))) (fun h => hm (Or.inr (Or.inr (Or.inr (Or.inr (Or.inr (Or.inr (Or.inr (Or.inr (Or.inr h)))))))))))))))))))))))) (rt_i2 ⟨⟨by first | (clear h_1 h_2 h_3 h_4 h_5 h_6 h_7 h_8 h_9 h_10 h_11 h_12 h_13 h_14 h_15 h_16 h_17 h_18 h_19 h_20 h_21 h_23 h_24 h_25 h_96 h_107 h_108 h_120 h_124 h_125 h_126 h_127 h_131 h_132 h_136 h_137 h_141 h_142 h_146 h_147 h_149 h_150 h_152 h_158 h_26 h_151 hw_159; omega) | omega, by first | (clear h_1 h_2 h_3 h_4 h_5 h_6 h_7 h_8 h_9 h_10 h_11 h_12 h_13 h_14 h_15 h_16 h_17 h_18 h_19 h_20 h_21 h_23 h_24 h_25 h_96 h_107 h_108 h_120 h_124 h_125 h_126 h_127 h_131 h_132 h_136 h_137 h_141 h_142 h_146 h_147 h_149 h_150 h_152 h_158 h_26 h_151 hw_159; omega) | omega⟩, by first | (clear h_1 h_2 h_3 h_4 h_5 h_6 h_7 h_8 h_9 h_10 h_11 h_12 h_13 h_14 h_15 h_16 h_17 h_18 h_19 h_20 h_21 h_23 h_25 h_107 h_108 h_120 h_122 h_123 h_124 h_131 h_132 h_136 h_137 h_141 h_142 h_146 h_147 h_149 h_150 h_152 h_158 hw_159; omega) | omega, by first | (clear h_1 h_2 h_3 h_4 h_5 h_6 h_7 h_8 h_9 h_10 h_11 h_12 h_13 h_14 h_15 h_16 h_17 h_18 h_19 h_20 h_21 h_23 h_25 h_107 h_108 h_120 h_122 h_123 h_124 h_131 h_132 h_136 h_137 h_141 h_142 h_146 h_147 h_149 h_150 h_152 h_158 hw_159; omega) | omega, by first | (clear h_1 h_2 h_3 h_4 h_5 h_6 h_7 h_8 h_9 h_10 h_11 h_12 h_13 h_14 h_15 h_16 h_17 h_18 h_19 h_20 h_21 h_23 h_24 h_25 h_96 h_107 h_108 h_120 h_124 h_125 h_126 h_127 h_131 h_132 h_136 h_137 h_141 h_142 h_146 h_147 h_149 h_150 h_152 h_158 h_26 h_151 hw_159; omega) | omega⟩) (Or.inr (Or.inl (by first | (clear h_1 h_2 h_3 h_4 h_5 h_6 h_7 h_8 h_9 h_10 h_11 h_12 h_13 h_14 h_15 h_16 h_17 h_18 h_19 h_20 h_21 h_23 h_24 h_25 h_96 h_107 h_108 h_120 h_124 h_125 h_126 h_127 h_131 h_132 h_136 h_137 h_141 h_142 h_146 h_147 h_149 h_150 h_152 h_158 h_26 h_151 hw_159; omega) | omega))) (fun hz => absurd hz (by omega)) (fun hz => absurd hz (by omega)) (fun hz => absurd hz (by omega))
          · refine v_ic_gt_f (t := 85) rfl (by decide) ⟨by first | exact rgp_l hv.1 (by decide) | omega, (Int.not_lt.mp h_120), by decide⟩ ?_
            refine q_aload_n rfl rfl ?_
            refine v_cv rfl rfl rfl rfl (by decide) ⟨⟨rfl, rfl⟩, by decide, rfl⟩ (Nat.le_of_ble_eq_true rfl) (Nat.le_of_ble_eq_true rfl) ?_
            refine q_aload_n rfl rfl ?_
            refine v_cv rfl rfl rfl rfl (by decide) ⟨⟨rfl, rfl⟩, by decide, rfl⟩ (Nat.le_of_ble_eq_true rfl) (Nat.le_of_ble_eq_true rfl) ?_
            refine q_aload_n rfl rfl ?_
            refine v_gi (z := 4) (v := 1) rfl rfl rfl (by decide) rfl rfl (hz_110) ?_
            refine v_if_ne_t (t := 11) rfl (by decide) (by decide) ?_
            refine q_iconst rfl ?_
            refine v_zret rfl rfl (by decide) ?_
            refine bk_inl ?_
            refine v_if_eq_t (t := 22) rfl (by decide) (by decide) ?_
            refine q_iconst rfl ?_
            refine v_zret rfl rfl (by decide) ?_
            refine bk_inl ?_
            refine v_if_eq_t (t := 85) rfl (by decide) (by decide) ?_
            refine q_vret rfl rfl ?_
            intro hE_186
            have hW : Wd P Q P P c_104 = Wd P Q P P m9 := (Prod.mk.inj (Prod.mk.inj hE_186).2).1
            have h_187 := ir_1_4 hJ9
            have h_188 : m9 1 4 = 1 := wd_fv (z := 4) 4 rfl hW rfl rfl rfl rfl (by decide) (hz_110) ⟨by decide, by decide⟩ ⟨(Int.le_trans (by decide) h_187.1), (Int.le_trans h_187.2 (by decide))⟩
            have h_189 := ir_1_2 hJ9
            have h_190 : m9 1 2 = (nx F e1 a) := wd_fv (z := 2) 2 rfl hW rfl rfl rfl rfl (by decide) (hz_109) ⟨by first | (clear h_1 h_2 h_3 h_4 h_5 h_6 h_7 h_8 h_9 h_10 h_11 h_12 h_13 h_14 h_15 h_16 h_17 h_18 h_19 h_20 h_21 h_23 h_25 h_107 h_108 h_187 h_188 h_189; omega) | omega, by first | (clear h_3 h_4 h_5 h_6 h_7 h_8 h_11 h_12 h_13 h_14 h_15 h_16 h_17 h_18 h_19 h_20 h_21 h_23 h_107 h_108 h_187 h_188 h_189; omega) | omega⟩ ⟨(Int.le_trans (by decide) h_189.1), (Int.le_trans h_189.2 (by decide))⟩
            have h_191 := ir_1_5 hJ9
            have h_192 : m9 1 5 = (nx F e1 a) := wd_fv (z := 5) 5 rfl hW rfl rfl rfl rfl (by decide) (hz_111) ⟨by first | (clear h_1 h_2 h_3 h_4 h_5 h_6 h_7 h_8 h_9 h_10 h_11 h_12 h_13 h_14 h_15 h_16 h_17 h_18 h_19 h_20 h_21 h_23 h_25 h_107 h_108 h_187 h_188 h_189 h_191; omega) | omega, by first | (clear h_3 h_4 h_5 h_6 h_7 h_8 h_11 h_12 h_13 h_14 h_15 h_16 h_17 h_18 h_19 h_20 h_21 h_23 h_107 h_108 h_187 h_188 h_191; omega) | omega⟩ ⟨(Int.le_trans (by decide) h_191.1), (Int.le_trans h_191.2 (by decide))⟩
            have kn_193 : Hid (c_27 A 0 = jr) := (hF_29 A 0 (fun h => absurd h.1 (np0 hA rfl))).trans (hg_jr)
            have kn_194 : Hid (c_87 A 0 = jr) := (hF_89 A 0 (fun h => absurd h.1 (np0 hA rfl))).trans (hid kn_193)
            have kn_195 : Hid (c_104 A 0 = jr) := (hF_106 A 0 (fun q => q.elim (fun h => absurd h.1 (np0 hA rfl)) (fun q => q.elim (fun h => absurd h.1 (np0 hA rfl)) (fun h => absurd h.1 (np0 hA rfl))))).trans (hid kn_194)
            have h_196 := ir_p0_0 hJ9 hA
            have h_197 : m9 A 0 = jr := wd_fv (z := 0) 0 rfl hW (ck_p0 hA) (ck_p0 hA) rfl rfl (by omega) (hid kn_195) ⟨(Int.le_trans (by decide) hjr.1), (Int.le_trans hjr.2 (by decide))⟩ ⟨(Int.le_trans (by decide) h_196.1), (Int.le_trans h_196.2 (by decide))⟩
            have kn_198 : Hid (c_27 A 1 = st) := (hF_29 A 1 (fun h => absurd h.1 (np0 hA rfl))).trans (hg_st)
            have kn_199 : Hid (c_87 A 1 = st) := (hF_89 A 1 (fun h => absurd h.1 (np0 hA rfl))).trans (hid kn_198)
            have kn_200 : Hid (c_104 A 1 = st) := (hF_106 A 1 (fun q => q.elim (fun h => absurd h.1 (np0 hA rfl)) (fun q => q.elim (fun h => absurd h.1 (np0 hA rfl)) (fun h => absurd h.1 (np0 hA rfl))))).trans (hid kn_199)
            have h_201 := ir_p0_1 hJ9 hA
            have h_202 : m9 A 1 = st := wd_fv (z := 1) 1 rfl hW (ck_p0 hA) (ck_p0 hA) rfl rfl (by omega) (hid kn_200) ⟨(Int.le_trans (by decide) hst.1), (Int.le_trans hst.2 (by decide))⟩ ⟨(Int.le_trans (by decide) h_201.1), (Int.le_trans h_201.2 (by decide))⟩
            have kn_203 : Hid (c_27 A 2 = si) := (hF_29 A 2 (fun h => absurd h.1 (np0 hA rfl))).trans (hg_si)
            have kn_204 : Hid (c_87 A 2 = si) := (hF_89 A 2 (fun h => absurd h.1 (np0 hA rfl))).trans (hid kn_203)
            have kn_205 : Hid (c_104 A 2 = si) := (hF_106 A 2 (fun q => q.elim (fun h => absurd h.1 (np0 hA rfl)) (fun q => q.elim (fun h => absurd h.1 (np0 hA rfl)) (fun h => absurd h.1 (np0 hA rfl))))).trans (hid kn_204)
            have h_206 := ir_p0_2 hJ9 hA
            have h_207 : m9 A 2 = si := wd_fv (z := 2) 2 rfl hW (ck_p0 hA) (ck_p0 hA) rfl rfl (by omega) (hid kn_205) ⟨(Int.le_trans (by decide) hsi.1), (Int.le_trans hsi.2 (by decide))⟩ ⟨(Int.le_trans (by decide) h_206.1), (Int.le_trans h_206.2 (by decide))⟩
            have kn_208 : Hid (c_27 A 3 = du) := (hF_29 A 3 (fun h => absurd h.1 (np0 hA rfl))).trans (hg_du)
            have kn_209 : Hid (c_87 A 3 = du) := (hF_89 A 3 (fun h => absurd h.1 (np0 hA rfl))).trans (hid kn_208)
            have kn_210 : Hid (c_104 A 3 = du) := (hF_106 A 3 (fun q => q.elim (fun h => absurd h.1 (np0 hA rfl)) (fun q => q.elim (fun h => absurd h.1 (np0 hA rfl)) (fun h => absurd h.1 (np0 hA rfl))))).trans (hid kn_209)
            have h_211 := ir_p0_3 hJ9 hA
            have h_212 : m9 A 3 = du := wd_fv (z := 3) 3 rfl hW (ck_p0 hA) (ck_p0 hA) rfl rfl (by omega) (hid kn_210) ⟨(Int.le_trans (by decide) hdu.1), (Int.le_trans hdu.2 (by decide))⟩ ⟨(Int.le_trans (by decide) h_211.1), (Int.le_trans h_211.2 (by decide))⟩
            refine q_aload_n rfl rfl ?_
            refine v_cv rfl rfl rfl rfl (by decide) ⟨⟨rfl, rfl⟩, by decide, rfl⟩ (Nat.le_of_ble_eq_true rfl) (Nat.le_of_ble_eq_true rfl) ?_
            refine q_aload_n rfl rfl ?_
            refine v_gi (z := 5) (v := (-1)) rfl rfl rfl (by decide) rfl rfl (hc_1) ?_
            refine q_iconst rfl ?_
            refine v_ic_ne_f (t := 12) rfl (by decide) (by decide) ?_
            refine q_iconst rfl ?_
            refine q_goto (t := 13) rfl (by decide) ?_
            refine v_zret rfl rfl (by decide) ?_
            refine bk_inl ?_
            refine v_if_eq_f (t := 136) rfl (by decide) (by decide) ?_
            refine q_aload_n rfl rfl ?_
            refine v_cv rfl rfl rfl rfl (by decide) ⟨⟨rfl, rfl⟩, by decide, rfl⟩ (Nat.le_of_ble_eq_true rfl) (Nat.le_of_ble_eq_true rfl) ?_
            refine q_aload_n rfl rfl ?_
            have kn_213 : Hid (c2 41 3 = e1) := (hFc 41 3 (fun q => q.elim (fun h => absurd h.2 (ni rfl)) (fun q => q.elim (fun h => absurd h.2 (ni rfl)) (fun q => q.elim (fun h => absurd h.2 (ni rfl)) (fun q => q.elim (fun h => absurd h.2 (ni rfl)) (fun q => q.elim (fun h => absurd h.2 (ni rfl)) (fun q => q.elim (fun h => absurd h.2 (ni rfl)) (fun q => q.elim (fun h => absurd h.2 (ni rfl)) (fun q => q.elim (fun h => absurd h (nn rfl)) (fun q => q.elim (fun h => absurd h (nn rfl)) (fun h => absurd h (nn rfl)))))))))))).trans (hr_e1)
            have h_214 : -2147483648 ≤ (H (nx F e1 a)) ∧ (H (nx F e1 a)) ≤ 2147483647 := by rw [← hH (nx F e1 a)]; exact ir_43 hI (nx F e1 a)
            have h_215 := hU (nx F e1 a) (by omega) (by omega)
            have h_216 := hb_or (b := H) (e := e1) (r := (nx F e1 a))
            have h_217 := hb_bd (b := H) (e := e1) (r := (nx F e1 a)) (lo := -2147483648) (hi := 2147483647) ⟨by omega, by omega⟩ (by decide)
            refine v_cv rfl rfl rfl rfl (by decide) ⟨⟨rfl, rfl⟩, by decide, rfl⟩ (Nat.le_of_ble_eq_true rfl) (Nat.le_of_ble_eq_true rfl) (f_154 (e1 := e1) (a9 := a) (B := H) (r8 := (nx F e1 a)) (r := (hb H e1 (nx F e1 a))) hI2 ((hid kn_213)) ((hr_a)) (fun j => (hFc 43 j (fun q => q.elim (fun h => absurd h.1 (nn rfl)) (fun q => q.elim (fun h => absurd h.1 (nn rfl)) (fun q => q.elim (fun h => absurd h.1 (nn rfl)) (fun q => q.elim (fun h => absurd h.1 (nn rfl)) (fun q => q.elim (fun h => absurd h.1 (nn rfl)) (fun q => q.elim (fun h => absurd h.1 (nn rfl)) (fun q => q.elim (fun h => absurd h.1 (nn rfl)) (fun q => q.elim (fun h => absurd h (nn rfl)) (fun q => q.elim (fun h => absurd h (nn rfl)) (fun h => absurd h (nn rfl)))))))))))).trans (hH j)) ((nx_tr hU (by first | (clear h_1 h_2 h_3 h_4 h_5 h_6 h_7 h_8 h_9 h_10 h_11 h_12 h_13 h_14 h_15 h_16 h_17 h_18 h_19 h_20 h_21 h_23 h_24 h_25 h_96 h_107 h_108 h_187 h_188 h_189 h_190 h_191 h_192 h_196 h_197 h_201 h_202 h_206 h_207 h_211 h_212 h_26; omega) | omega) (by first | (clear h_3 h_4 h_5 h_6 h_7 h_8 h_9 h_10 h_11 h_12 h_13 h_14 h_15 h_16 h_17 h_18 h_19 h_20 h_21 h_23 h_25 h_107 h_108 h_187 h_188 h_189 h_190 h_191 h_192 h_196 h_197 h_201 h_202 h_206 h_207 h_211 h_212; omega) | omega)).trans (rfl)) rfl (fun c_218 hI_219 hF_220 h_221 => ?_))
            refine bk_inl ?_
            refine q_pop rfl rfl ?_
            refine q_aload_n rfl rfl ?_
            refine v_gi (z := 4) (v := (nx F e1 a)) rfl rfl rfl (by decide) rfl rfl (h_221) ?_
            refine q_aload_n rfl rfl ?_
            have kn_222 : Hid (c_218 41 3 = e1) := (hF_220 41 3 (fun h => absurd h.2 (ni rfl))).trans (hid kn_213)
            refine v_gi (z := 3) (v := e1) rfl rfl rfl (by decide) rfl rfl (hid kn_222) ?_
            refine v_ic_ge_f (t := 20) rfl (by decide) ⟨by first | (clear h_1 h_2 h_3 h_4 h_5 h_6 h_7 h_8 h_9 h_10 h_11 h_12 h_13 h_14 h_15 h_16 h_17 h_18 h_19 h_20 h_21 h_23 h_25 h_107 h_108 h_187 h_188 h_189 h_191 h_196 h_197 h_201 h_202 h_206 h_207 h_211 h_212 h_214 h_215 h_217; omega) | omega, by first | (clear h_1 h_2 h_3 h_4 h_5 h_6 h_7 h_8 h_9 h_10 h_11 h_12 h_13 h_14 h_15 h_16 h_17 h_18 h_19 h_20 h_21 h_23 h_24 h_25 h_96 h_107 h_108 h_187 h_188 h_189 h_190 h_191 h_192 h_196 h_197 h_201 h_202 h_206 h_207 h_211 h_212 h_214 h_215 h_217 h_26 h_216; omega) | omega, (Int.le_trans (rg_eq hg_e1 h_1).2 (by decide))⟩ ?_
            refine q_iconst rfl ?_
            refine q_goto (t := 21) rfl (by decide) ?_
            refine v_zret rfl rfl (by decide) ?_
            refine bk_inl ?_
            refine v_if_eq_f (t := 136) rfl (by decide) (by decide) ?_
            refine q_aload_n rfl rfl ?_
            have h_223 := wv_bd (b := F) (r := (nx F e1 a)) (l := (ln F e1 (nx F e1 a))) (fun j h1 h2 => ⟨(ln_in (e := e1) (a := (nx F e1 a)) h1 h2).1, (ln_in (e := e1) (a := (nx F e1 a)) h1 h2).2.1⟩)
            have hw_224 : Hid (¬ wv F (nx F e1 a) (ln F e1 (nx F e1 a)) = 10290 ∧ ¬ wv F (nx F e1 a) (ln F e1 (nx F e1 a)) = 20594117 ∧ ¬ wv F (nx F e1 a) (ln F e1 (nx F e1 a)) = 20223685 ∧ ¬ wv F (nx F e1 a) (ln F e1 (nx F e1 a)) = 153204) := wr8_4 (b := F) (r := (nx F e1 a)) (l := (ln F e1 (nx F e1 a))) (by omega) (fun j h1 h2 => ⟨(ln_in (e := e1) (a := (nx F e1 a)) h1 h2).1, (ln_in (e := e1) (a := (nx F e1 a)) h1 h2).2.1⟩) (by omega)
            refine v_cv rfl rfl rfl rfl (by decide) ⟨⟨rfl, rfl⟩, by decide, rfl⟩ (Nat.le_of_ble_eq_true rfl) (Nat.le_of_ble_eq_true rfl) (f_157 (e1 := e1) (a9 := (nx F e1 a)) (B := H) (r8 := (nx F e1 a)) (L8 := (ln F e1 (nx F e1 a))) (W8 := (wv F (nx F e1 a) (ln F e1 (nx F e1 a)))) hI_219 ((hid kn_222)) ((h_221)) (fun j => ((hF_220 43 j (fun h => absurd h.1 (nn rfl))).trans (hFc 43 j (fun q => q.elim (fun h => absurd h.1 (nn rfl)) (fun q => q.elim (fun h => absurd h.1 (nn rfl)) (fun q => q.elim (fun h => absurd h.1 (nn rfl)) (fun q => q.elim (fun h => absurd h.1 (nn rfl)) (fun q => q.elim (fun h => absurd h.1 (nn rfl)) (fun q => q.elim (fun h => absurd h.1 (nn rfl)) (fun q => q.elim (fun h => absurd h.1 (nn rfl)) (fun q => q.elim (fun h => absurd h (nn rfl)) (fun q => q.elim (fun h => absurd h (nn rfl)) (fun h => absurd h (nn rfl))))))))))))).trans (hH j)) ((nx_tr hU (by first | (clear h_1 h_2 h_3 h_4 h_5 h_6 h_7 h_8 h_9 h_10 h_11 h_12 h_13 h_14 h_15 h_16 h_17 h_18 h_19 h_20 h_21 h_23 h_25 h_107 h_108 h_187 h_188 h_189 h_191 h_196 h_197 h_201 h_202 h_206 h_207 h_211 h_212 h_214 h_215 h_217; omega) | omega) (by first | (clear h_3 h_4 h_5 h_6 h_7 h_8 h_9 h_10 h_11 h_12 h_13 h_14 h_15 h_16 h_17 h_18 h_19 h_20 h_21 h_23 h_25 h_107 h_108 h_187 h_188 h_189 h_190 h_191 h_192 h_196 h_197 h_201 h_202 h_206 h_207 h_211 h_212 h_214 h_215 h_217; omega) | omega)).trans ((nx_z (by omega)))) ((ln_tr hU (by first | (clear h_1 h_2 h_3 h_4 h_5 h_6 h_7 h_8 h_9 h_10 h_11 h_12 h_13 h_14 h_15 h_16 h_17 h_18 h_19 h_20 h_21 h_23 h_25 h_107 h_108 h_187 h_188 h_189 h_191 h_196 h_197 h_201 h_202 h_206 h_207 h_211 h_212 h_214 h_215 h_217; omega) | omega) (by first | (clear h_3 h_4 h_5 h_6 h_7 h_8 h_9 h_10 h_11 h_12 h_13 h_14 h_15 h_16 h_17 h_18 h_19 h_20 h_21 h_23 h_25 h_107 h_108 h_187 h_188 h_189 h_190 h_191 h_192 h_196 h_197 h_201 h_202 h_206 h_207 h_211 h_212 h_214 h_215 h_217; omega) | omega)).trans (rfl)) ((wv_tr hU (by first | (clear h_1 h_2 h_3 h_4 h_5 h_6 h_7 h_8 h_9 h_10 h_11 h_12 h_13 h_14 h_15 h_16 h_17 h_18 h_19 h_20 h_21 h_23 h_25 h_107 h_108 h_187 h_188 h_189 h_191 h_196 h_197 h_201 h_202 h_206 h_207 h_211 h_212 h_214 h_215 h_217 h_223 hw_224; omega) | omega) (by first | (clear h_3 h_4 h_5 h_6 h_7 h_8 h_9 h_10 h_11 h_12 h_13 h_14 h_15 h_16 h_17 h_18 h_19 h_20 h_21 h_23 h_25 h_107 h_108 h_187 h_188 h_189 h_191 h_196 h_197 h_201 h_202 h_206 h_207 h_211 h_212 h_214 h_215 h_217 h_223 hw_224; omega) | omega) (fun j h1 h2 => ⟨(ln_in (e := e1) (a := (nx F e1 a)) h1 h2).1, (ln_in (e := e1) (a := (nx F e1 a)) h1 h2).2.1⟩)).trans (rfl)) (fun c_225 hI_226 hF_227 hz_228 => ?_))
            refine bk_inl ?_
            refine q_istore_n rfl (by decide) ?_
            refine q_iload_n rfl rfl ?_
            refine q_call rfl rfl rfl rfl ?_
            refine q_iload_n rfl rfl ?_
            refine q_ldc_s rfl rfl rfl (by decide) ?_
            refine q_call rfl rfl rfl rfl (s_158_16 ?_)
            refine bk_inl ?_
            refine v_ic_eq_f (t := 36) rfl (by decide) ⟨(hid hw_224).1, ⟨by first | (clear h_1 h_2 h_3 h_4 h_5 h_6 h_7 h_8 h_9 h_10 h_11 h_12 h_13 h_14 h_15 h_16 h_17 h_18 h_19 h_20 h_21 h_23 h_24 h_25 h_96 h_107 h_108 h_187 h_188 h_189 h_190 h_191 h_192 h_196 h_197 h_201 h_202 h_206 h_207 h_211 h_212 h_214 h_215 h_217 h_26 h_216; omega) | omega, by first | (clear h_1 h_2 h_3 h_4 h_5 h_6 h_7 h_8 h_9 h_10 h_11 h_12 h_13 h_14 h_15 h_16 h_17 h_18 h_19 h_20 h_21 h_23 h_24 h_25 h_96 h_107 h_108 h_187 h_188 h_189 h_190 h_191 h_192 h_196 h_197 h_201 h_202 h_206 h_207 h_211 h_212 h_214 h_215 h_217 h_26 h_216; omega) | omega⟩, by decide, by decide⟩ ?_
            refine q_iload_n rfl rfl ?_
            refine q_ldc_s rfl rfl rfl (by decide) ?_
            refine q_call rfl rfl rfl rfl (s_158_17 ?_)
            refine bk_inl ?_
            refine v_ic_eq_f (t := 36) rfl (by decide) ⟨(hid hw_224).2.1, ⟨by first | (clear h_1 h_2 h_3 h_4 h_5 h_6 h_7 h_8 h_9 h_10 h_11 h_12 h_13 h_14 h_15 h_16 h_17 h_18 h_19 h_20 h_21 h_23 h_24 h_25 h_96 h_107 h_108 h_187 h_188 h_189 h_190 h_191 h_192 h_196 h_197 h_201 h_202 h_206 h_207 h_211 h_212 h_214 h_215 h_217 h_26 h_216; omega) | omega, by first | (clear h_1 h_2 h_3 h_4 h_5 h_6 h_7 h_8 h_9 h_10 h_11 h_12 h_13 h_14 h_15 h_16 h_17 h_18 h_19 h_20 h_21 h_23 h_24 h_25 h_96 h_107 h_108 h_187 h_188 h_189 h_190 h_191 h_192 h_196 h_197 h_201 h_202 h_206 h_207 h_211 h_212 h_214 h_215 h_217 h_26 h_216; omega) | omega⟩, by decide, by decide⟩ ?_
            refine q_iload_n rfl rfl ?_
            refine q_ldc_s rfl rfl rfl (by decide) ?_
            refine q_call rfl rfl rfl rfl (s_158_18 ?_)
            refine bk_inl ?_
            refine v_ic_eq_f (t := 36) rfl (by decide) ⟨(hid hw_224).2.2.1, ⟨by first | (clear h_1 h_2 h_3 h_4 h_5 h_6 h_7 h_8 h_9 h_10 h_11 h_12 h_13 h_14 h_15 h_16 h_17 h_18 h_19 h_20 h_21 h_23 h_24 h_25 h_96 h_107 h_108 h_187 h_188 h_189 h_190 h_191 h_192 h_196 h_197 h_201 h_202 h_206 h_207 h_211 h_212 h_214 h_215 h_217 h_26 h_216; omega) | omega, by first | (clear h_1 h_2 h_3 h_4 h_5 h_6 h_7 h_8 h_9 h_10 h_11 h_12 h_13 h_14 h_15 h_16 h_17 h_18 h_19 h_20 h_21 h_23 h_24 h_25 h_96 h_107 h_108 h_187 h_188 h_189 h_190 h_191 h_192 h_196 h_197 h_201 h_202 h_206 h_207 h_211 h_212 h_214 h_215 h_217 h_26 h_216; omega) | omega⟩, by decide, by decide⟩ ?_
            refine q_iload_n rfl rfl ?_
            refine q_ldc_s rfl rfl rfl (by decide) ?_
            refine q_call rfl rfl rfl rfl (s_158_19 ?_)
            refine bk_inl ?_
            refine v_ic_ne_t (t := 40) rfl (by decide) ⟨(hid hw_224).2.2.2, ⟨by first | (clear h_1 h_2 h_3 h_4 h_5 h_6 h_7 h_8 h_9 h_10 h_11 h_12 h_13 h_14 h_15 h_16 h_17 h_18 h_19 h_20 h_21 h_23 h_24 h_25 h_96 h_107 h_108 h_187 h_188 h_189 h_190 h_191 h_192 h_196 h_197 h_201 h_202 h_206 h_207 h_211 h_212 h_214 h_215 h_217 h_26 h_216; omega) | omega, by first | (clear h_1 h_2 h_3 h_4 h_5 h_6 h_7 h_8 h_9 h_10 h_11 h_12 h_13 h_14 h_15 h_16 h_17 h_18 h_19 h_20 h_21 h_23 h_24 h_25 h_96 h_107 h_108 h_187 h_188 h_189 h_190 h_191 h_192 h_196 h_197 h_201 h_202 h_206 h_207 h_211 h_212 h_214 h_215 h_217 h_26 h_216; omega) | omega⟩, by decide, by decide⟩ ?_
            refine q_iconst rfl ?_
            refine v_zret rfl rfl (by decide) ?_
            refine bk_inl ?_
            refine v_if_ne_f (t := 82) rfl (by decide) (by decide) ?_
            refine q_aload_n rfl rfl ?_
            refine q_iconst rfl ?_
            refine q_aload_n rfl rfl ?_
            refine v_gi (z := 4) (v := (nx F e1 a)) rfl rfl rfl (by decide) rfl rfl (hz_228) ?_
            refine v_cv rfl rfl rfl rfl (by decide) ⟨⟨rfl, rfl⟩, by decide, rfl⟩ (Nat.le_of_ble_eq_true rfl) (Nat.le_of_ble_eq_true rfl) ?_
            refine q_aload_n rfl rfl ?_
            have kn_229 : Hid (c_218 41 5 = (-1)) := (hF_220 41 5 (fun h => absurd h.2 (ni rfl))).trans (hc_1)
            have kn_230 : Hid (c_225 41 5 = (-1)) := (hF_227 41 5 (fun h => absurd h.2 (ni rfl))).trans (hid kn_229)
            refine v_gi (z := 5) (v := (-1)) rfl rfl rfl (by decide) rfl rfl (hid kn_230) ?_
            refine q_iconst rfl ?_
            refine v_ic_eq_t (t := 9) rfl (by decide) (by decide) ?_
            refine q_aload_n rfl rfl ?_
            refine q_iload_n rfl rfl ?_
            refine v_pi (z := 5) rfl rfl rfl (by decide) rfl rfl rfl (by decide) ?_
            refine q_aload_n rfl rfl ?_
            refine q_iload_n rfl rfl ?_
            refine v_pi (z := 6) rfl rfl rfl (by decide) rfl rfl rfl (by decide) ?_
            refine q_vret rfl rfl ?_
            refine bk_inl ?_
            refine q_goto (t := 105) rfl (by decide) ?_
            refine q_aload_n rfl rfl ?_
            refine v_cv rfl rfl rfl rfl (by decide) ⟨⟨rfl, rfl⟩, by decide, rfl⟩ (Nat.le_of_ble_eq_true rfl) (Nat.le_of_ble_eq_true rfl) ?_
            refine q_aload_n rfl rfl ?_
            refine v_gi (z := 5) (v := (nx F e1 a)) rfl rfl rfl (by decide) rfl rfl ((up_n (by decide)).trans (up_e rfl)) ?_
            refine q_iconst rfl ?_
            refine v_ic_ne_t (t := 12) rfl (by decide) ⟨by first | (clear h_1 h_2 h_3 h_4 h_5 h_6 h_7 h_8 h_9 h_10 h_11 h_12 h_13 h_14 h_15 h_16 h_17 h_18 h_19 h_20 h_21 h_23 h_25 h_107 h_108 h_187 h_188 h_189 h_191 h_196 h_197 h_201 h_202 h_206 h_207 h_211 h_212 h_214 h_215 h_217 h_223 hw_224; omega) | omega, ⟨by first | (clear h_1 h_2 h_3 h_4 h_5 h_6 h_7 h_8 h_9 h_10 h_11 h_12 h_13 h_14 h_15 h_16 h_17 h_18 h_19 h_20 h_21 h_23 h_25 h_107 h_108 h_187 h_188 h_189 h_191 h_196 h_197 h_201 h_202 h_206 h_207 h_211 h_212 h_214 h_215 h_217 h_223 hw_224; omega) | omega, by first | (clear h_3 h_4 h_5 h_6 h_7 h_8 h_11 h_12 h_13 h_14 h_15 h_16 h_17 h_18 h_19 h_20 h_21 h_23 h_107 h_108 h_187 h_188 h_196 h_197 h_201 h_202 h_206 h_207 h_211 h_212 h_223 hw_224; omega) | omega⟩, by decide, by decide⟩ ?_
            refine q_iconst rfl ?_
            refine v_zret rfl rfl (by decide) ?_
            refine bk_inl ?_
            refine v_if_ne_f (t := 115) rfl (by decide) (by decide) ?_
            refine q_goto (t := 136) rfl (by decide) ?_
            refine Wp_ls [(0, .ref 41), (1, vi a1)] (lsub_cons rfl (lsub_cons rfl lsub_nil)) ?_
            have hI_231 := iw_41_5 (v := (nx F e1 a)) hI_226 ⟨by first | (clear h_1 h_2 h_3 h_4 h_5 h_6 h_7 h_8 h_9 h_10 h_11 h_12 h_13 h_14 h_15 h_16 h_17 h_18 h_19 h_20 h_21 h_23 h_25 h_107 h_108 h_187 h_188 h_189 h_191 h_196 h_197 h_201 h_202 h_206 h_207 h_211 h_212 h_214 h_215 h_217 h_223 hw_224; omega) | omega, by first | (clear h_3 h_4 h_5 h_6 h_7 h_8 h_11 h_12 h_13 h_14 h_15 h_16 h_17 h_18 h_19 h_20 h_21 h_23 h_107 h_108 h_187 h_188 h_196 h_197 h_201 h_202 h_206 h_207 h_211 h_212 h_223 hw_224; omega) | omega⟩
            have hI_232 := iw_41_6 (v := 1) hI_231 ⟨by decide, by decide⟩
            have h_233 : (up (up c_225 41 5 (nx F e1 a)) 41 6 1) 41 5 = (nx F e1 a) := ((up_n (by decide)).trans (up_e rfl))
            have h_234 : (up (up c_225 41 5 (nx F e1 a)) 41 6 1) 41 4 = (nx F e1 a) := ((up_n (by decide)).trans ((up_n (by decide)).trans (hz_228)))
            have h_235 : (up (up c_225 41 5 (nx F e1 a)) 41 6 1) 41 6 = 1 := (up_e rfl)
            have kn_236 : Hid (c_218 41 16 = jr) := (hF_220 41 16 (fun h => absurd h.2 (ni rfl))).trans (hr_jr)
            have kn_237 : Hid (c_225 41 16 = jr) := (hF_227 41 16 (fun h => absurd h.2 (ni rfl))).trans (hid kn_236)
            have h_238 : (up (up c_225 41 5 (nx F e1 a)) 41 6 1) 41 16 = jr := ((up_n (by decide)).trans ((up_n (by decide)).trans (hid kn_237)))
            have kn_239 : Hid (c_218 41 17 = st) := (hF_220 41 17 (fun h => absurd h.2 (ni rfl))).trans (hr_st)
            have kn_240 : Hid (c_225 41 17 = st) := (hF_227 41 17 (fun h => absurd h.2 (ni rfl))).trans (hid kn_239)
            have h_241 : (up (up c_225 41 5 (nx F e1 a)) 41 6 1) 41 17 = st := ((up_n (by decide)).trans ((up_n (by decide)).trans (hid kn_240)))
            have kn_242 : Hid (c_218 41 18 = si) := (hF_220 41 18 (fun h => absurd h.2 (ni rfl))).trans (hr_si)
            have kn_243 : Hid (c_225 41 18 = si) := (hF_227 41 18 (fun h => absurd h.2 (ni rfl))).trans (hid kn_242)
            have h_244 : (up (up c_225 41 5 (nx F e1 a)) 41 6 1) 41 18 = si := ((up_n (by decide)).trans ((up_n (by decide)).trans (hid kn_243)))
            have kn_245 : Hid (c_218 41 19 = du) := (hF_220 41 19 (fun h => absurd h.2 (ni rfl))).trans (hr_du)
            have kn_246 : Hid (c_225 41 19 = du) := (hF_227 41 19 (fun h => absurd h.2 (ni rfl))).trans (hid kn_245)
            have h_247 : (up (up c_225 41 5 (nx F e1 a)) 41 6 1) 41 19 = du := ((up_n (by decide)).trans ((up_n (by decide)).trans (hid kn_246)))
            have h_248 : (up (up c_225 41 5 (nx F e1 a)) 41 6 1) 41 16 = jr := ((up_n (by decide)).trans ((up_n (by decide)).trans (hid kn_237)))
            have h_249 : (up (up c_225 41 5 (nx F e1 a)) 41 6 1) 41 17 = st := ((up_n (by decide)).trans ((up_n (by decide)).trans (hid kn_240)))
            have h_250 : (up (up c_225 41 5 (nx F e1 a)) 41 6 1) 41 18 = si := ((up_n (by decide)).trans ((up_n (by decide)).trans (hid kn_243)))
            exact K (up (up c_225 41 5 (nx F e1 a)) 41 6 1)  hI_232 (fun a j hm => (up_b (Decidable.or_iff_not_imp_left.mpr (fun h1 h2 => hm (Or.inr (Or.inr (Or.inl ⟨Decidable.not_not.mp h1, h2⟩)))))).trans ((up_b (Decidable.or_iff_not_imp_left.mpr (fun h1 h2 => hm (Or.inr (Or.inl ⟨Decidable.not_not.mp h1, h2⟩))))).trans ((hF_227 a j (fun h => hm (Or.inl h))).trans ((hF_220 a j (fun h => hm (Or.inl h))).trans (hFc a j (fun q => q.elim (fun h => hm (Or.inl h)) (fun q => q.elim (fun h => hm (Or.inr (Or.inl h))) (fun q => q.elim (fun h => hm (Or.inr (Or.inr (Or.inl h)))) (fun q => q.elim (fun h => hm (Or.inr (Or.inr (Or.inr (Or.inl h))))) (fun q => q.elim (fun h => hm (Or.inr (Or.inr (Or.inr (Or.inr (Or.inl h)))))) (fun q => q.elim (fun h => hm (Or.inr (Or.inr (Or.inr (Or.inr (Or.inr (Or.inl h))))))) (fun q => q.elim (fun h => hm (Or.inr (Or.inr (Or.inr (Or.inr (Or.inr (Or.inr (Or.inl h)))))))) (fun q => q.elim (fun h => hm (Or.inr (Or.inr (Or.inr (Or.inr (Or.inr (Or.inr (Or.inr (Or.inl h))))))))) (fun q => q.elim (fun h => hm (Or.inr (Or.inr (Or.inr (Or.inr (Or.inr (Or.inr (Or.inr (Or.inr (Or.inl h)))))))))) (fun h => hm (Or.inr (Or.inr (Or.inr (Or.inr (Or.inr (Or.inr (Or.inr (Or.inr (Or.inr h)))))))))))))))))))))))) (rt_i2 ⟨⟨by first | (clear h_1 h_2 h_3 h_4 h_5 h_6 h_7 h_8 h_9 h_10 h_11 h_12 h_13 h_14 h_15 h_16 h_17 h_18 h_19 h_20 h_21 h_23 h_24 h_25 h_96 h_107 h_108 h_189 h_190 h_191 h_192 h_196 h_197 h_201 h_202 h_206 h_207 h_211 h_212 h_214 h_215 h_217 h_223 h_26 h_216 hw_224; omega) | omega, by first | (clear h_1 h_2 h_3 h_4 h_5 h_6 h_7 h_8 h_9 h_10 h_11 h_12 h_13 h_14 h_15 h_16 h_17 h_18 h_19 h_20 h_21 h_23 h_24 h_25 h_96 h_107 h_108 h_189 h_190 h_191 h_192 h_196 h_197 h_201 h_202 h_206 h_207 h_211 h_212 h_214 h_215 h_217 h_223 h_26 h_216 hw_224; omega) | omega⟩, by first | (clear h_1 h_2 h_3 h_4 h_5 h_6 h_7 h_8 h_9 h_10 h_11 h_12 h_13 h_14 h_15 h_16 h_17 h_18 h_19 h_20 h_21 h_23 h_25 h_107 h_108 h_187 h_188 h_189 h_196 h_197 h_201 h_202 h_206 h_207 h_211 h_212 h_214 h_215 h_217 h_223 hw_224; omega) | omega, by first | (clear h_1 h_2 h_3 h_4 h_5 h_6 h_7 h_8 h_9 h_10 h_11 h_12 h_13 h_14 h_15 h_16 h_17 h_18 h_19 h_20 h_21 h_23 h_25 h_107 h_108 h_187 h_188 h_189 h_196 h_197 h_201 h_202 h_206 h_207 h_211 h_212 h_214 h_215 h_217 h_223 hw_224; omega) | omega, by first | (clear h_1 h_2 h_3 h_4 h_5 h_6 h_7 h_8 h_9 h_10 h_11 h_12 h_13 h_14 h_15 h_16 h_17 h_18 h_19 h_20 h_21 h_23 h_24 h_25 h_96 h_107 h_108 h_189 h_190 h_191 h_192 h_196 h_197 h_201 h_202 h_206 h_207 h_211 h_212 h_214 h_215 h_217 h_223 h_26 h_216 hw_224; omega) | omega⟩) (Or.inr (Or.inl (by first | (clear h_1 h_2 h_3 h_4 h_5 h_6 h_7 h_8 h_9 h_10 h_11 h_12 h_13 h_14 h_15 h_16 h_17 h_18 h_19 h_20 h_21 h_23 h_24 h_25 h_96 h_107 h_108 h_189 h_190 h_191 h_192 h_196 h_197 h_201 h_202 h_206 h_207 h_211 h_212 h_214 h_215 h_217 h_223 h_26 h_216 hw_224; omega) | omega))) (fun hz => absurd hz (by omega)) (fun hz => absurd hz (by omega)) (fun hz => absurd hz (by omega))
      · skip
        refine bk_inl ?_
        refine q_istore rfl (by decide) ?_
        refine q_iload rfl rfl ?_
        refine q_iconst rfl ?_
        refine v_ic_eq_f (t := 59) rfl (by decide) ⟨by first | (clear h_1 h_2 h_3 h_4 h_5 h_6 h_7 h_8 h_9 h_10 h_11 h_12 h_13 h_14 h_15 h_16 h_17 h_18 h_19 h_20 h_21 h_23 h_24 h_25 h_96 h_115 h_26; omega) | omega, ⟨by first | (clear h_1 h_2 h_3 h_4 h_5 h_6 h_7 h_8 h_9 h_10 h_11 h_12 h_13 h_14 h_15 h_16 h_17 h_18 h_19 h_20 h_21 h_23 h_24 h_25 h_96 h_115 h_26; omega) | omega, by first | (clear h_1 h_2 h_3 h_4 h_5 h_6 h_7 h_8 h_9 h_10 h_11 h_12 h_13 h_14 h_15 h_16 h_17 h_18 h_19 h_20 h_21 h_23 h_24 h_25 h_96 h_115 h_26; omega) | omega⟩, by decide, by decide⟩ ?_
        refine q_iload_n rfl rfl ?_
        refine v_bip rfl (by decide) ?_
        by_cases h_251 : v = 60
        · as_aux_lemma =>
            refine v_ic_eq_t (t := 53) rfl (by decide) h_251 ?_
            refine q_aload_n rfl rfl ?_
            refine q_iconst rfl ?_
            refine q_iload_n rfl rfl ?_
            refine v_cv rfl rfl rfl rfl (by decide) ⟨⟨rfl, rfl⟩, by decide, rfl⟩ (Nat.le_of_ble_eq_true rfl) (Nat.le_of_ble_eq_true rfl) ?_
            refine q_aload_n rfl rfl ?_
            refine v_gi (z := 4) (v := 0) rfl rfl rfl (by decide) rfl rfl (hz_118) ?_
            refine v_if_ne_f (t := 17) rfl (by decide) (by decide) ?_
            refine q_aload_n rfl rfl ?_
            refine q_iload_n rfl rfl ?_
            refine v_pi (z := 4) rfl rfl rfl (by decide) rfl rfl rfl (by decide) ?_
            refine q_aload_n rfl rfl ?_
            refine q_iload_n rfl rfl ?_
            refine v_pi (z := 5) rfl rfl rfl (by decide) rfl rfl rfl (by decide) ?_
            refine q_vret rfl rfl ?_
            refine bk_inl ?_
            refine q_aload_n rfl rfl ?_
            refine v_cv rfl rfl rfl rfl (by decide) ⟨⟨rfl, rfl⟩, by decide, rfl⟩ (Nat.le_of_ble_eq_true rfl) (Nat.le_of_ble_eq_true rfl) ?_
            refine q_aload_n rfl rfl ?_
            refine v_gi (z := 4) (v := 3) rfl rfl rfl (by decide) rfl rfl ((up_n (by decide)).trans (up_e rfl)) ?_
            refine v_if_ne_t (t := 11) rfl (by decide) (by decide) ?_
            refine q_iconst rfl ?_
            refine v_zret rfl rfl (by decide) ?_
            refine bk_inl ?_
            refine v_if_eq_t (t := 73) rfl (by decide) (by decide) ?_
            refine q_aload_n rfl rfl ?_
            refine q_ldc_s rfl rfl rfl (by decide) ?_
            refine v_cv rfl rfl rfl rfl (by decide) ⟨⟨rfl, rfl⟩, by decide, rfl⟩ (Nat.le_of_ble_eq_true rfl) (Nat.le_of_ble_eq_true rfl) ?_
            refine q_aload_n rfl rfl ?_
            refine v_cv rfl rfl rfl rfl (by decide) ⟨⟨rfl, rfl⟩, by decide, rfl⟩ (Nat.le_of_ble_eq_true rfl) (Nat.le_of_ble_eq_true rfl) ?_
            refine q_aload_n rfl rfl ?_
            refine v_gi (z := 4) (v := 3) rfl rfl rfl (by decide) rfl rfl ((up_n (by decide)).trans (up_e rfl)) ?_
            refine v_if_ne_t (t := 11) rfl (by decide) (by decide) ?_
            refine q_iconst rfl ?_
            refine v_zret rfl rfl (by decide) ?_
            refine bk_inl ?_
            refine v_if_eq_t (t := 25) rfl (by decide) (by decide) ?_
            refine q_vret rfl rfl ?_
            refine bk_inl ?_
            refine v_iinc (v := v + 1) rfl rfl (by decide) rfl ?_
            refine q_goto (t := 6) rfl (by decide) ?_
            refine q_iload_n rfl rfl ?_
            refine v_bip rfl (by decide) ?_
            refine v_ic_gt_t (t := 85) rfl (by decide) ⟨by decide, by first | (clear h_1 h_2 h_3 h_4 h_5 h_6 h_7 h_8 h_9 h_10 h_11 h_12 h_13 h_14 h_15 h_16 h_17 h_18 h_19 h_20 h_21 h_23 h_24 h_25 h_96 h_115 h_116 h_26; omega) | omega, by first | exact rgp_h hv.2 (by decide) | omega⟩ ?_
            refine q_vret rfl rfl ?_
            have hI_252 := iw_1_4 (v := 3) hI_113 ⟨by decide, by decide⟩
            have hI_253 := iw_1_5 (v := (nx F e1 a)) hI_252 ⟨by first | (clear h_1 h_2 h_3 h_4 h_5 h_6 h_7 h_8 h_9 h_10 h_11 h_12 h_13 h_14 h_15 h_16 h_17 h_18 h_19 h_20 h_21 h_23 h_25 h_115 h_116 h_251; omega) | omega, by first | (clear h_3 h_4 h_5 h_6 h_7 h_8 h_11 h_12 h_13 h_14 h_15 h_16 h_17 h_18 h_19 h_20 h_21 h_23 h_115 h_116 h_251; omega) | omega⟩
            intro hE_254
            have hW : Wd P Q P P (up (up c_112 1 4 3) 1 5 (nx F e1 a)) = Wd P Q P P m9 := (Prod.mk.inj (Prod.mk.inj hE_254).2).1
            have h_255 := ir_1_4 hJ9
            have h_256 : m9 1 4 = 3 := wd_fv (z := 4) 4 rfl hW rfl rfl rfl rfl (by decide) ((up_n (by decide)).trans (up_e rfl)) ⟨by decide, by decide⟩ ⟨(Int.le_trans (by decide) h_255.1), (Int.le_trans h_255.2 (by decide))⟩
            have h_257 := ir_1_2 hJ9
            have h_258 : m9 1 2 = (ln F e1 (nx F e1 a)) := wd_fv (z := 2) 2 rfl hW rfl rfl rfl rfl (by decide) ((up_n (by decide)).trans ((up_n (by decide)).trans (hz_117))) ⟨by first | (clear h_3 h_4 h_5 h_6 h_7 h_8 h_9 h_10 h_11 h_12 h_13 h_14 h_15 h_16 h_17 h_18 h_19 h_20 h_21 h_23 h_25 h_115 h_116 h_251 h_255 h_256 h_257; omega) | omega, by first | (clear h_3 h_4 h_5 h_6 h_7 h_8 h_9 h_10 h_11 h_12 h_13 h_14 h_15 h_16 h_17 h_18 h_19 h_20 h_21 h_23 h_25 h_115 h_116 h_251 h_255 h_256 h_257; omega) | omega⟩ ⟨(Int.le_trans (by decide) h_257.1), (Int.le_trans h_257.2 (by decide))⟩
            have h_259 := ir_1_5 hJ9
            have h_260 : m9 1 5 = (nx F e1 a) := wd_fv (z := 5) 5 rfl hW rfl rfl rfl rfl (by decide) (up_e rfl) ⟨by first | (clear h_1 h_2 h_3 h_4 h_5 h_6 h_7 h_8 h_9 h_10 h_11 h_12 h_13 h_14 h_15 h_16 h_17 h_18 h_19 h_20 h_21 h_23 h_25 h_115 h_116 h_251 h_255 h_256 h_257 h_258 h_259; omega) | omega, by first | (clear h_3 h_4 h_5 h_6 h_7 h_8 h_11 h_12 h_13 h_14 h_15 h_16 h_17 h_18 h_19 h_20 h_21 h_23 h_115 h_116 h_251 h_255 h_256 h_257 h_259; omega) | omega⟩ ⟨(Int.le_trans (by decide) h_259.1), (Int.le_trans h_259.2 (by decide))⟩
            have kn_261 : Hid (c_27 A 0 = jr) := (hF_29 A 0 (fun h => absurd h.1 (np0 hA rfl))).trans (hg_jr)
            have kn_262 : Hid (c_87 A 0 = jr) := (hF_89 A 0 (fun h => absurd h.1 (np0 hA rfl))).trans (hid kn_261)
            have kn_263 : Hid (c_112 A 0 = jr) := (hF_114 A 0 (fun q => q.elim (fun h => absurd h.1 (np0 hA rfl)) (fun q => q.elim (fun h => absurd h.1 (np0 hA rfl)) (fun h => absurd h.1 (np0 hA rfl))))).trans (hid kn_262)
            have h_264 := ir_p0_0 hJ9 hA
            have h_265 : m9 A 0 = jr := wd_fv (z := 0) 0 rfl hW (ck_p0 hA) (ck_p0 hA) rfl rfl (by omega) ((up_c (np0 hA rfl)).trans ((up_c (np0 hA rfl)).trans (hid kn_263))) ⟨(Int.le_trans (by decide) hjr.1), (Int.le_trans hjr.2 (by decide))⟩ ⟨(Int.le_trans (by decide) h_264.1), (Int.le_trans h_264.2 (by decide))⟩
            have kn_266 : Hid (c_27 A 1 = st) := (hF_29 A 1 (fun h => absurd h.1 (np0 hA rfl))).trans (hg_st)
            have kn_267 : Hid (c_87 A 1 = st) := (hF_89 A 1 (fun h => absurd h.1 (np0 hA rfl))).trans (hid kn_266)
            have kn_268 : Hid (c_112 A 1 = st) := (hF_114 A 1 (fun q => q.elim (fun h => absurd h.1 (np0 hA rfl)) (fun q => q.elim (fun h => absurd h.1 (np0 hA rfl)) (fun h => absurd h.1 (np0 hA rfl))))).trans (hid kn_267)
            have h_269 := ir_p0_1 hJ9 hA
            have h_270 : m9 A 1 = st := wd_fv (z := 1) 1 rfl hW (ck_p0 hA) (ck_p0 hA) rfl rfl (by omega) ((up_c (np0 hA rfl)).trans ((up_c (np0 hA rfl)).trans (hid kn_268))) ⟨(Int.le_trans (by decide) hst.1), (Int.le_trans hst.2 (by decide))⟩ ⟨(Int.le_trans (by decide) h_269.1), (Int.le_trans h_269.2 (by decide))⟩
            have kn_271 : Hid (c_27 A 2 = si) := (hF_29 A 2 (fun h => absurd h.1 (np0 hA rfl))).trans (hg_si)
            have kn_272 : Hid (c_87 A 2 = si) := (hF_89 A 2 (fun h => absurd h.1 (np0 hA rfl))).trans (hid kn_271)
            have kn_273 : Hid (c_112 A 2 = si) := (hF_114 A 2 (fun q => q.elim (fun h => absurd h.1 (np0 hA rfl)) (fun q => q.elim (fun h => absurd h.1 (np0 hA rfl)) (fun h => absurd h.1 (np0 hA rfl))))).trans (hid kn_272)
            have h_274 := ir_p0_2 hJ9 hA
            have h_275 : m9 A 2 = si := wd_fv (z := 2) 2 rfl hW (ck_p0 hA) (ck_p0 hA) rfl rfl (by omega) ((up_c (np0 hA rfl)).trans ((up_c (np0 hA rfl)).trans (hid kn_273))) ⟨(Int.le_trans (by decide) hsi.1), (Int.le_trans hsi.2 (by decide))⟩ ⟨(Int.le_trans (by decide) h_274.1), (Int.le_trans h_274.2 (by decide))⟩
            have kn_276 : Hid (c_27 A 3 = du) := (hF_29 A 3 (fun h => absurd h.1 (np0 hA rfl))).trans (hg_du)
            have kn_277 : Hid (c_87 A 3 = du) := (hF_89 A 3 (fun h => absurd h.1 (np0 hA rfl))).trans (hid kn_276)
            have kn_278 : Hid (c_112 A 3 = du) := (hF_114 A 3 (fun q => q.elim (fun h => absurd h.1 (np0 hA rfl)) (fun q => q.elim (fun h => absurd h.1 (np0 hA rfl)) (fun h => absurd h.1 (np0 hA rfl))))).trans (hid kn_277)
            have h_279 := ir_p0_3 hJ9 hA
            have h_280 : m9 A 3 = du := wd_fv (z := 3) 3 rfl hW (ck_p0 hA) (ck_p0 hA) rfl rfl (by omega) ((up_c (np0 hA rfl)).trans ((up_c (np0 hA rfl)).trans (hid kn_278))) ⟨(Int.le_trans (by decide) hdu.1), (Int.le_trans hdu.2 (by decide))⟩ ⟨(Int.le_trans (by decide) h_279.1), (Int.le_trans h_279.2 (by decide))⟩
            refine q_aload_n rfl rfl ?_
            refine v_cv rfl rfl rfl rfl (by decide) ⟨⟨rfl, rfl⟩, by decide, rfl⟩ (Nat.le_of_ble_eq_true rfl) (Nat.le_of_ble_eq_true rfl) ?_
            refine q_aload_n rfl rfl ?_
            refine v_gi (z := 5) (v := (-1)) rfl rfl rfl (by decide) rfl rfl (hc_1) ?_
            refine q_iconst rfl ?_
            refine v_ic_ne_f (t := 12) rfl (by decide) (by decide) ?_
            refine q_iconst rfl ?_
            refine q_goto (t := 13) rfl (by decide) ?_
            refine v_zret rfl rfl (by decide) ?_
            refine bk_inl ?_
            refine v_if_eq_f (t := 136) rfl (by decide) (by decide) ?_
            refine q_aload_n rfl rfl ?_
            refine v_cv rfl rfl rfl rfl (by decide) ⟨⟨rfl, rfl⟩, by decide, rfl⟩ (Nat.le_of_ble_eq_true rfl) (Nat.le_of_ble_eq_true rfl) ?_
            refine q_aload_n rfl rfl ?_
            have kn_281 : Hid (c2 41 3 = e1) := (hFc 41 3 (fun q => q.elim (fun h => absurd h.2 (ni rfl)) (fun q => q.elim (fun h => absurd h.2 (ni rfl)) (fun q => q.elim (fun h => absurd h.2 (ni rfl)) (fun q => q.elim (fun h => absurd h.2 (ni rfl)) (fun q => q.elim (fun h => absurd h.2 (ni rfl)) (fun q => q.elim (fun h => absurd h.2 (ni rfl)) (fun q => q.elim (fun h => absurd h.2 (ni rfl)) (fun q => q.elim (fun h => absurd h (nn rfl)) (fun q => q.elim (fun h => absurd h (nn rfl)) (fun h => absurd h (nn rfl)))))))))))).trans (hr_e1)
            have h_282 : -2147483648 ≤ (H (nx F e1 a)) ∧ (H (nx F e1 a)) ≤ 2147483647 := by rw [← hH (nx F e1 a)]; exact ir_43 hI (nx F e1 a)
            have h_283 := hU (nx F e1 a) (by omega) (by omega)
            have h_284 := hb_or (b := H) (e := e1) (r := (nx F e1 a))
            have h_285 := hb_bd (b := H) (e := e1) (r := (nx F e1 a)) (lo := -2147483648) (hi := 2147483647) ⟨by omega, by omega⟩ (by decide)
            refine v_cv rfl rfl rfl rfl (by decide) ⟨⟨rfl, rfl⟩, by decide, rfl⟩ (Nat.le_of_ble_eq_true rfl) (Nat.le_of_ble_eq_true rfl) (f_154 (e1 := e1) (a9 := a) (B := H) (r8 := (nx F e1 a)) (r := (hb H e1 (nx F e1 a))) hI2 ((hid kn_281)) ((hr_a)) (fun j => (hFc 43 j (fun q => q.elim (fun h => absurd h.1 (nn rfl)) (fun q => q.elim (fun h => absurd h.1 (nn rfl)) (fun q => q.elim (fun h => absurd h.1 (nn rfl)) (fun q => q.elim (fun h => absurd h.1 (nn rfl)) (fun q => q.elim (fun h => absurd h.1 (nn rfl)) (fun q => q.elim (fun h => absurd h.1 (nn rfl)) (fun q => q.elim (fun h => absurd h.1 (nn rfl)) (fun q => q.elim (fun h => absurd h (nn rfl)) (fun q => q.elim (fun h => absurd h (nn rfl)) (fun h => absurd h (nn rfl)))))))))))).trans (hH j)) ((nx_tr hU (by first | (clear h_1 h_2 h_3 h_4 h_5 h_6 h_7 h_8 h_9 h_10 h_11 h_12 h_13 h_14 h_15 h_16 h_17 h_18 h_19 h_20 h_21 h_23 h_24 h_25 h_96 h_115 h_116 h_251 h_255 h_256 h_257 h_258 h_259 h_260 h_264 h_265 h_269 h_270 h_274 h_275 h_279 h_280 h_26; omega) | omega) (by first | (clear h_3 h_4 h_5 h_6 h_7 h_8 h_9 h_10 h_11 h_12 h_13 h_14 h_15 h_16 h_17 h_18 h_19 h_20 h_21 h_23 h_25 h_115 h_116 h_251 h_255 h_256 h_257 h_258 h_259 h_260 h_264 h_265 h_269 h_270 h_274 h_275 h_279 h_280; omega) | omega)).trans (rfl)) rfl (fun c_286 hI_287 hF_288 h_289 => ?_))
            refine bk_inl ?_
            refine q_pop rfl rfl ?_
            refine q_aload_n rfl rfl ?_
            refine v_gi (z := 4) (v := (nx F e1 a)) rfl rfl rfl (by decide) rfl rfl (h_289) ?_
            refine q_aload_n rfl rfl ?_
            have kn_290 : Hid (c_286 41 3 = e1) := (hF_288 41 3 (fun h => absurd h.2 (ni rfl))).trans (hid kn_281)
            refine v_gi (z := 3) (v := e1) rfl rfl rfl (by decide) rfl rfl (hid kn_290) ?_
            refine v_ic_ge_f (t := 20) rfl (by decide) ⟨by first | (clear h_1 h_2 h_3 h_4 h_5 h_6 h_7 h_8 h_9 h_10 h_11 h_12 h_13 h_14 h_15 h_16 h_17 h_18 h_19 h_20 h_21 h_23 h_25 h_115 h_116 h_251 h_255 h_256 h_257 h_258 h_259 h_264 h_265 h_269 h_270 h_274 h_275 h_279 h_280 h_282 h_283 h_285; omega) | omega, by first | (clear h_1 h_2 h_3 h_4 h_5 h_6 h_7 h_8 h_9 h_10 h_11 h_12 h_13 h_14 h_15 h_16 h_17 h_18 h_19 h_20 h_21 h_23 h_24 h_25 h_96 h_115 h_116 h_251 h_255 h_256 h_257 h_258 h_259 h_260 h_264 h_265 h_269 h_270 h_274 h_275 h_279 h_280 h_282 h_283 h_285 h_26 h_284; omega) | omega, (Int.le_trans (rg_eq hg_e1 h_1).2 (by decide))⟩ ?_
            refine q_iconst rfl ?_
            refine q_goto (t := 21) rfl (by decide) ?_
            refine v_zret rfl rfl (by decide) ?_
            refine bk_inl ?_
            refine v_if_eq_f (t := 136) rfl (by decide) (by decide) ?_
            refine q_aload_n rfl rfl ?_
            have h_291 := wv_bd (b := F) (r := (nx F e1 a)) (l := (ln F e1 (nx F e1 a))) (fun j h1 h2 => ⟨(ln_in (e := e1) (a := (nx F e1 a)) h1 h2).1, (ln_in (e := e1) (a := (nx F e1 a)) h1 h2).2.1⟩)
            have h_292 := wr8 (b := F) (r := (nx F e1 a)) (l := (ln F e1 (nx F e1 a))) (by omega) (fun j h1 h2 => ⟨(ln_in (e := e1) (a := (nx F e1 a)) h1 h2).1, (ln_in (e := e1) (a := (nx F e1 a)) h1 h2).2.1⟩)
            refine v_cv rfl rfl rfl rfl (by decide) ⟨⟨rfl, rfl⟩, by decide, rfl⟩ (Nat.le_of_ble_eq_true rfl) (Nat.le_of_ble_eq_true rfl) (f_157 (e1 := e1) (a9 := (nx F e1 a)) (B := H) (r8 := (nx F e1 a)) (L8 := (ln F e1 (nx F e1 a))) (W8 := (wv F (nx F e1 a) (ln F e1 (nx F e1 a)))) hI_287 ((hid kn_290)) ((h_289)) (fun j => ((hF_288 43 j (fun h => absurd h.1 (nn rfl))).trans (hFc 43 j (fun q => q.elim (fun h => absurd h.1 (nn rfl)) (fun q => q.elim (fun h => absurd h.1 (nn rfl)) (fun q => q.elim (fun h => absurd h.1 (nn rfl)) (fun q => q.elim (fun h => absurd h.1 (nn rfl)) (fun q => q.elim (fun h => absurd h.1 (nn rfl)) (fun q => q.elim (fun h => absurd h.1 (nn rfl)) (fun q => q.elim (fun h => absurd h.1 (nn rfl)) (fun q => q.elim (fun h => absurd h (nn rfl)) (fun q => q.elim (fun h => absurd h (nn rfl)) (fun h => absurd h (nn rfl))))))))))))).trans (hH j)) ((nx_tr hU (by first | (clear h_1 h_2 h_3 h_4 h_5 h_6 h_7 h_8 h_9 h_10 h_11 h_12 h_13 h_14 h_15 h_16 h_17 h_18 h_19 h_20 h_21 h_23 h_25 h_115 h_116 h_251 h_255 h_256 h_257 h_258 h_259 h_264 h_265 h_269 h_270 h_274 h_275 h_279 h_280 h_282 h_283 h_285; omega) | omega) (by first | (clear h_3 h_4 h_5 h_6 h_7 h_8 h_9 h_10 h_11 h_12 h_13 h_14 h_15 h_16 h_17 h_18 h_19 h_20 h_21 h_23 h_25 h_115 h_116 h_251 h_255 h_256 h_257 h_258 h_259 h_260 h_264 h_265 h_269 h_270 h_274 h_275 h_279 h_280 h_282 h_283 h_285; omega) | omega)).trans ((nx_z (by omega)))) ((ln_tr hU (by first | (clear h_1 h_2 h_3 h_4 h_5 h_6 h_7 h_8 h_9 h_10 h_11 h_12 h_13 h_14 h_15 h_16 h_17 h_18 h_19 h_20 h_21 h_23 h_25 h_115 h_116 h_251 h_255 h_256 h_257 h_258 h_259 h_264 h_265 h_269 h_270 h_274 h_275 h_279 h_280 h_282 h_283 h_285; omega) | omega) (by first | (clear h_3 h_4 h_5 h_6 h_7 h_8 h_9 h_10 h_11 h_12 h_13 h_14 h_15 h_16 h_17 h_18 h_19 h_20 h_21 h_23 h_25 h_115 h_116 h_251 h_255 h_256 h_257 h_258 h_259 h_260 h_264 h_265 h_269 h_270 h_274 h_275 h_279 h_280 h_282 h_283 h_285; omega) | omega)).trans (rfl)) ((wv_tr hU (by first | (clear h_1 h_2 h_3 h_4 h_5 h_6 h_7 h_8 h_9 h_10 h_11 h_12 h_13 h_14 h_15 h_16 h_17 h_18 h_19 h_20 h_21 h_23 h_25 h_115 h_116 h_251 h_255 h_256 h_257 h_258 h_259 h_264 h_265 h_269 h_270 h_274 h_275 h_279 h_280 h_282 h_283 h_285 h_291 h_292; omega) | omega) (by first | (clear h_3 h_4 h_5 h_6 h_7 h_8 h_9 h_10 h_11 h_12 h_13 h_14 h_15 h_16 h_17 h_18 h_19 h_20 h_21 h_23 h_25 h_115 h_116 h_251 h_255 h_256 h_259 h_264 h_265 h_269 h_270 h_274 h_275 h_279 h_280 h_282 h_283 h_285 h_291 h_292; omega) | omega) (fun j h1 h2 => ⟨(ln_in (e := e1) (a := (nx F e1 a)) h1 h2).1, (ln_in (e := e1) (a := (nx F e1 a)) h1 h2).2.1⟩)).trans (rfl)) (fun c_293 hI_294 hF_295 hz_296 => ?_))
            refine bk_inl ?_
            refine q_istore_n rfl (by decide) ?_
            refine q_iload_n rfl rfl ?_
            refine q_call rfl rfl rfl rfl ?_
            refine q_iload_n rfl rfl ?_
            refine q_ldc_s rfl rfl rfl (by decide) ?_
            refine q_call rfl rfl rfl rfl (s_158_16 ?_)
            refine bk_inl ?_
            by_cases h_297 : (wv F (nx F e1 a) (ln F e1 (nx F e1 a))) = 10290
            · refine v_ic_eq_t (t := 36) rfl (by decide) h_297 ?_
              refine q_iconst rfl ?_
              refine q_goto (t := 41) rfl (by decide) ?_
              refine v_zret rfl rfl (by decide) ?_
              refine bk_inl ?_
              refine v_if_ne_t (t := 82) rfl (by decide) (by decide) ?_
              refine q_iload_n rfl rfl ?_
              refine v_bip rfl (by decide) ?_
              refine v_ic_eq_t (t := 96) rfl (by decide) (by first | (clear h_1 h_2 h_3 h_4 h_5 h_6 h_7 h_8 h_9 h_10 h_11 h_12 h_13 h_14 h_15 h_16 h_17 h_18 h_19 h_20 h_21 h_23 h_24 h_25 h_96 h_115 h_116 h_255 h_256 h_257 h_258 h_259 h_260 h_264 h_265 h_269 h_270 h_274 h_275 h_279 h_280 h_282 h_283 h_285 h_291 h_297 h_26 h_284 h_292; omega) | omega) ?_
              refine q_aload_n rfl rfl ?_
              refine q_iconst rfl ?_
              refine q_aload_n rfl rfl ?_
              refine v_gi (z := 4) (v := (nx F e1 a)) rfl rfl rfl (by decide) rfl rfl (hz_296) ?_
              refine v_cv rfl rfl rfl rfl (by decide) ⟨⟨rfl, rfl⟩, by decide, rfl⟩ (Nat.le_of_ble_eq_true rfl) (Nat.le_of_ble_eq_true rfl) ?_
              refine q_aload_n rfl rfl ?_
              have kn_298 : Hid (c_286 41 5 = (-1)) := (hF_288 41 5 (fun h => absurd h.2 (ni rfl))).trans (hc_1)
              have kn_299 : Hid (c_293 41 5 = (-1)) := (hF_295 41 5 (fun h => absurd h.2 (ni rfl))).trans (hid kn_298)
              refine v_gi (z := 5) (v := (-1)) rfl rfl rfl (by decide) rfl rfl (hid kn_299) ?_
              refine q_iconst rfl ?_
              refine v_ic_eq_t (t := 9) rfl (by decide) (by decide) ?_
              refine q_aload_n rfl rfl ?_
              refine q_iload_n rfl rfl ?_
              refine v_pi (z := 5) rfl rfl rfl (by decide) rfl rfl rfl (by decide) ?_
              refine q_aload_n rfl rfl ?_
              refine q_iload_n rfl rfl ?_
              refine v_pi (z := 6) rfl rfl rfl (by decide) rfl rfl rfl (by decide) ?_
              refine q_vret rfl rfl ?_
              refine bk_inl ?_
              refine q_aload_n rfl rfl ?_
              refine v_cv rfl rfl rfl rfl (by decide) ⟨⟨rfl, rfl⟩, by decide, rfl⟩ (Nat.le_of_ble_eq_true rfl) (Nat.le_of_ble_eq_true rfl) ?_
              refine q_aload_n rfl rfl ?_
              refine v_gi (z := 5) (v := (nx F e1 a)) rfl rfl rfl (by decide) rfl rfl ((up_n (by decide)).trans (up_e rfl)) ?_
              refine q_iconst rfl ?_
              refine v_ic_ne_t (t := 12) rfl (by decide) ⟨by first | (clear h_1 h_2 h_3 h_4 h_5 h_6 h_7 h_8 h_9 h_10 h_11 h_12 h_13 h_14 h_15 h_16 h_17 h_18 h_19 h_20 h_21 h_23 h_25 h_115 h_116 h_251 h_255 h_256 h_257 h_258 h_259 h_264 h_265 h_269 h_270 h_274 h_275 h_279 h_280 h_282 h_283 h_285 h_291 h_297 h_292; omega) | omega, ⟨by first | (clear h_1 h_2 h_3 h_4 h_5 h_6 h_7 h_8 h_9 h_10 h_11 h_12 h_13 h_14 h_15 h_16 h_17 h_18 h_19 h_20 h_21 h_23 h_25 h_115 h_116 h_251 h_255 h_256 h_257 h_258 h_259 h_264 h_265 h_269 h_270 h_274 h_275 h_279 h_280 h_282 h_283 h_285 h_291 h_297 h_292; omega) | omega, by first | (clear h_3 h_4 h_5 h_6 h_7 h_8 h_11 h_12 h_13 h_14 h_15 h_16 h_17 h_18 h_19 h_20 h_21 h_23 h_115 h_116 h_251 h_255 h_256 h_257 h_264 h_265 h_269 h_270 h_274 h_275 h_279 h_280 h_291 h_297 h_292; omega) | omega⟩, by decide, by decide⟩ ?_
              refine q_iconst rfl ?_
              refine v_zret rfl rfl (by decide) ?_
              refine bk_inl ?_
              refine v_if_ne_f (t := 115) rfl (by decide) (by decide) ?_
              refine q_goto (t := 136) rfl (by decide) ?_
              refine Wp_ls [(0, .ref 41), (1, vi a1)] (lsub_cons rfl (lsub_cons rfl lsub_nil)) ?_
              have hI_300 := iw_41_5 (v := (nx F e1 a)) hI_294 ⟨by first | (clear h_1 h_2 h_3 h_4 h_5 h_6 h_7 h_8 h_9 h_10 h_11 h_12 h_13 h_14 h_15 h_16 h_17 h_18 h_19 h_20 h_21 h_23 h_25 h_115 h_116 h_251 h_255 h_256 h_257 h_258 h_259 h_264 h_265 h_269 h_270 h_274 h_275 h_279 h_280 h_282 h_283 h_285 h_291 h_297 h_292; omega) | omega, by first | (clear h_3 h_4 h_5 h_6 h_7 h_8 h_11 h_12 h_13 h_14 h_15 h_16 h_17 h_18 h_19 h_20 h_21 h_23 h_115 h_116 h_251 h_255 h_256 h_257 h_264 h_265 h_269 h_270 h_274 h_275 h_279 h_280 h_291 h_297 h_292; omega) | omega⟩
              have hI_301 := iw_41_6 (v := 3) hI_300 ⟨by decide, by decide⟩
              have h_302 : (up (up c_293 41 5 (nx F e1 a)) 41 6 3) 41 5 = (nx F e1 a) := ((up_n (by decide)).trans (up_e rfl))
              have h_303 : (up (up c_293 41 5 (nx F e1 a)) 41 6 3) 41 4 = (nx F e1 a) := ((up_n (by decide)).trans ((up_n (by decide)).trans (hz_296)))
              have h_304 : (up (up c_293 41 5 (nx F e1 a)) 41 6 3) 41 6 = 3 := (up_e rfl)
              have kn_305 : Hid (c_286 41 16 = jr) := (hF_288 41 16 (fun h => absurd h.2 (ni rfl))).trans (hr_jr)
              have kn_306 : Hid (c_293 41 16 = jr) := (hF_295 41 16 (fun h => absurd h.2 (ni rfl))).trans (hid kn_305)
              have h_307 : (up (up c_293 41 5 (nx F e1 a)) 41 6 3) 41 16 = jr := ((up_n (by decide)).trans ((up_n (by decide)).trans (hid kn_306)))
              have kn_308 : Hid (c_286 41 17 = st) := (hF_288 41 17 (fun h => absurd h.2 (ni rfl))).trans (hr_st)
              have kn_309 : Hid (c_293 41 17 = st) := (hF_295 41 17 (fun h => absurd h.2 (ni rfl))).trans (hid kn_308)
              have h_310 : (up (up c_293 41 5 (nx F e1 a)) 41 6 3) 41 17 = st := ((up_n (by decide)).trans ((up_n (by decide)).trans (hid kn_309)))
              have kn_311 : Hid (c_286 41 18 = si) := (hF_288 41 18 (fun h => absurd h.2 (ni rfl))).trans (hr_si)
              have kn_312 : Hid (c_293 41 18 = si) := (hF_295 41 18 (fun h => absurd h.2 (ni rfl))).trans (hid kn_311)
              have h_313 : (up (up c_293 41 5 (nx F e1 a)) 41 6 3) 41 18 = si := ((up_n (by decide)).trans ((up_n (by decide)).trans (hid kn_312)))
              have kn_314 : Hid (c_286 41 19 = du) := (hF_288 41 19 (fun h => absurd h.2 (ni rfl))).trans (hr_du)
              have kn_315 : Hid (c_293 41 19 = du) := (hF_295 41 19 (fun h => absurd h.2 (ni rfl))).trans (hid kn_314)
              have h_316 : (up (up c_293 41 5 (nx F e1 a)) 41 6 3) 41 19 = du := ((up_n (by decide)).trans ((up_n (by decide)).trans (hid kn_315)))
              have h_317 : (up (up c_293 41 5 (nx F e1 a)) 41 6 3) 41 16 = jr := ((up_n (by decide)).trans ((up_n (by decide)).trans (hid kn_306)))
              have h_318 : (up (up c_293 41 5 (nx F e1 a)) 41 6 3) 41 17 = st := ((up_n (by decide)).trans ((up_n (by decide)).trans (hid kn_309)))
              have h_319 : (up (up c_293 41 5 (nx F e1 a)) 41 6 3) 41 18 = si := ((up_n (by decide)).trans ((up_n (by decide)).trans (hid kn_312)))
              exact K (up (up c_293 41 5 (nx F e1 a)) 41 6 3)  hI_301 (fun a j hm => (up_b (Decidable.or_iff_not_imp_left.mpr (fun h1 h2 => hm (Or.inr (Or.inr (Or.inl ⟨Decidable.not_not.mp h1, h2⟩)))))).trans ((up_b (Decidable.or_iff_not_imp_left.mpr (fun h1 h2 => hm (Or.inr (Or.inl ⟨Decidable.not_not.mp h1, h2⟩))))).trans ((hF_295 a j (fun h => hm (Or.inl h))).trans ((hF_288 a j (fun h => hm (Or.inl h))).trans (hFc a j (fun q => q.elim (fun h => hm (Or.inl h)) (fun q => q.elim (fun h => hm (Or.inr (Or.inl h))) (fun q => q.elim (fun h => hm (Or.inr (Or.inr (Or.inl h)))) (fun q => q.elim (fun h => hm (Or.inr (Or.inr (Or.inr (Or.inl h))))) (fun q => q.elim (fun h => hm (Or.inr (Or.inr (Or.inr (Or.inr (Or.inl h)))))) (fun q => q.elim (fun h => hm (Or.inr (Or.inr (Or.inr (Or.inr (Or.inr (Or.inl h))))))) (fun q => q.elim (fun h => hm (Or.inr (Or.inr (Or.inr (Or.inr (Or.inr (Or.inr (Or.inl h)))))))) (fun q => q.elim (fun h => hm (Or.inr (Or.inr (Or.inr (Or.inr (Or.inr (Or.inr (Or.inr (Or.inl h))))))))) (fun q => q.elim (fun h => hm (Or.inr (Or.inr (Or.inr (Or.inr (Or.inr (Or.inr (Or.inr (Or.inr (Or.inl h)))))))))) (fun h => hm (Or.inr (Or.inr (Or.inr (Or.inr (Or.inr (Or.inr (Or.inr (Or.inr (Or.inr h)))))))))))))))))))))))) (rt_i2 ⟨⟨by first | (clear h_1 h_2 h_3 h_4 h_5 h_6 h_7 h_8 h_9 h_10 h_11 h_12 h_13 h_14 h_15 h_16 h_17 h_18 h_19 h_20 h_21 h_23 h_24 h_25 h_96 h_115 h_116 h_251 h_257 h_258 h_259 h_260 h_264 h_265 h_269 h_270 h_274 h_275 h_279 h_280 h_282 h_283 h_285 h_291 h_297 h_26 h_284 h_292; omega) | omega, by first | (clear h_1 h_2 h_3 h_4 h_5 h_6 h_7 h_8 h_9 h_10 h_11 h_12 h_13 h_14 h_15 h_16 h_17 h_18 h_19 h_20 h_21 h_23 h_24 h_25 h_96 h_115 h_116 h_251 h_257 h_258 h_259 h_260 h_264 h_265 h_269 h_270 h_274 h_275 h_279 h_280 h_282 h_283 h_285 h_291 h_297 h_26 h_284 h_292; omega) | omega⟩, by first | (clear h_1 h_2 h_3 h_4 h_5 h_6 h_7 h_8 h_9 h_10 h_11 h_12 h_13 h_14 h_15 h_16 h_17 h_18 h_19 h_20 h_21 h_23 h_25 h_115 h_116 h_251 h_255 h_256 h_257 h_258 h_264 h_265 h_269 h_270 h_274 h_275 h_279 h_280 h_282 h_283 h_285 h_291 h_297 h_292; omega) | omega, by first | (clear h_1 h_2 h_3 h_4 h_5 h_6 h_7 h_8 h_9 h_10 h_11 h_12 h_13 h_14 h_15 h_16 h_17 h_18 h_19 h_20 h_21 h_23 h_25 h_115 h_116 h_251 h_255 h_256 h_257 h_258 h_264 h_265 h_269 h_270 h_274 h_275 h_279 h_280 h_282 h_283 h_285 h_291 h_297 h_292; omega) | omega, by first | (clear h_1 h_2 h_3 h_4 h_5 h_6 h_7 h_8 h_9 h_10 h_11 h_12 h_13 h_14 h_15 h_16 h_17 h_18 h_19 h_20 h_21 h_23 h_24 h_25 h_96 h_115 h_116 h_251 h_257 h_258 h_259 h_260 h_264 h_265 h_269 h_270 h_274 h_275 h_279 h_280 h_282 h_283 h_285 h_291 h_297 h_26 h_284 h_292; omega) | omega⟩) (Or.inr (Or.inl (by first | (clear h_1 h_2 h_3 h_4 h_5 h_6 h_7 h_8 h_9 h_10 h_11 h_12 h_13 h_14 h_15 h_16 h_17 h_18 h_19 h_20 h_21 h_23 h_24 h_25 h_96 h_115 h_116 h_251 h_257 h_258 h_259 h_260 h_264 h_265 h_269 h_270 h_274 h_275 h_279 h_280 h_282 h_283 h_285 h_291 h_297 h_26 h_284 h_292; omega) | omega))) (fun hz => absurd hz (by omega)) (fun hz => absurd hz (by omega)) (fun hz => absurd hz (by omega))
            · refine v_ic_eq_f (t := 36) rfl (by decide) ⟨h_297, ⟨by first | (clear h_1 h_2 h_3 h_4 h_5 h_6 h_7 h_8 h_9 h_10 h_11 h_12 h_13 h_14 h_15 h_16 h_17 h_18 h_19 h_20 h_21 h_23 h_24 h_25 h_96 h_115 h_116 h_251 h_255 h_256 h_257 h_258 h_259 h_260 h_264 h_265 h_269 h_270 h_274 h_275 h_279 h_280 h_282 h_283 h_285 h_26 h_284; omega) | omega, by first | (clear h_1 h_2 h_3 h_4 h_5 h_6 h_7 h_8 h_9 h_10 h_11 h_12 h_13 h_14 h_15 h_16 h_17 h_18 h_19 h_20 h_21 h_23 h_24 h_25 h_96 h_115 h_116 h_251 h_255 h_256 h_257 h_258 h_259 h_260 h_264 h_265 h_269 h_270 h_274 h_275 h_279 h_280 h_282 h_283 h_285 h_26 h_284; omega) | omega⟩, by decide, by decide⟩ ?_
              refine q_iload_n rfl rfl ?_
              refine q_ldc_s rfl rfl rfl (by decide) ?_
              refine q_call rfl rfl rfl rfl (s_158_17 ?_)
              refine bk_inl ?_
              by_cases h_320 : (wv F (nx F e1 a) (ln F e1 (nx F e1 a))) = 20594117
              · refine v_ic_eq_t (t := 36) rfl (by decide) h_320 ?_
                refine q_iconst rfl ?_
                refine q_goto (t := 41) rfl (by decide) ?_
                refine v_zret rfl rfl (by decide) ?_
                refine bk_inl ?_
                refine v_if_ne_t (t := 82) rfl (by decide) (by decide) ?_
                refine q_iload_n rfl rfl ?_
                refine v_bip rfl (by decide) ?_
                refine v_ic_eq_t (t := 96) rfl (by decide) (by first | (clear h_1 h_2 h_3 h_4 h_5 h_6 h_7 h_8 h_9 h_10 h_11 h_12 h_13 h_14 h_15 h_16 h_17 h_18 h_19 h_20 h_21 h_23 h_24 h_25 h_96 h_115 h_116 h_255 h_256 h_257 h_258 h_259 h_260 h_264 h_265 h_269 h_270 h_274 h_275 h_279 h_280 h_282 h_283 h_285 h_291 h_320 h_26 h_284 h_292; omega) | omega) ?_
                refine q_aload_n rfl rfl ?_
                refine q_iconst rfl ?_
                refine q_aload_n rfl rfl ?_
                refine v_gi (z := 4) (v := (nx F e1 a)) rfl rfl rfl (by decide) rfl rfl (hz_296) ?_
                refine v_cv rfl rfl rfl rfl (by decide) ⟨⟨rfl, rfl⟩, by decide, rfl⟩ (Nat.le_of_ble_eq_true rfl) (Nat.le_of_ble_eq_true rfl) ?_
                refine q_aload_n rfl rfl ?_
                have kn_321 : Hid (c_286 41 5 = (-1)) := (hF_288 41 5 (fun h => absurd h.2 (ni rfl))).trans (hc_1)
                have kn_322 : Hid (c_293 41 5 = (-1)) := (hF_295 41 5 (fun h => absurd h.2 (ni rfl))).trans (hid kn_321)
                refine v_gi (z := 5) (v := (-1)) rfl rfl rfl (by decide) rfl rfl (hid kn_322) ?_
                refine q_iconst rfl ?_
                refine v_ic_eq_t (t := 9) rfl (by decide) (by decide) ?_
                refine q_aload_n rfl rfl ?_
                refine q_iload_n rfl rfl ?_
                refine v_pi (z := 5) rfl rfl rfl (by decide) rfl rfl rfl (by decide) ?_
                refine q_aload_n rfl rfl ?_
                refine q_iload_n rfl rfl ?_
                refine v_pi (z := 6) rfl rfl rfl (by decide) rfl rfl rfl (by decide) ?_
                refine q_vret rfl rfl ?_
                refine bk_inl ?_
                refine q_aload_n rfl rfl ?_
                refine v_cv rfl rfl rfl rfl (by decide) ⟨⟨rfl, rfl⟩, by decide, rfl⟩ (Nat.le_of_ble_eq_true rfl) (Nat.le_of_ble_eq_true rfl) ?_
                refine q_aload_n rfl rfl ?_
                refine v_gi (z := 5) (v := (nx F e1 a)) rfl rfl rfl (by decide) rfl rfl ((up_n (by decide)).trans (up_e rfl)) ?_
                refine q_iconst rfl ?_
                refine v_ic_ne_t (t := 12) rfl (by decide) ⟨by first | (clear h_1 h_2 h_3 h_4 h_5 h_6 h_7 h_8 h_9 h_10 h_11 h_12 h_13 h_14 h_15 h_16 h_17 h_18 h_19 h_20 h_21 h_23 h_25 h_115 h_116 h_251 h_255 h_256 h_257 h_258 h_259 h_264 h_265 h_269 h_270 h_274 h_275 h_279 h_280 h_282 h_283 h_285 h_291 h_320 h_292; omega) | omega, ⟨by first | (clear h_1 h_2 h_3 h_4 h_5 h_6 h_7 h_8 h_9 h_10 h_11 h_12 h_13 h_14 h_15 h_16 h_17 h_18 h_19 h_20 h_21 h_23 h_25 h_115 h_116 h_251 h_255 h_256 h_257 h_258 h_259 h_264 h_265 h_269 h_270 h_274 h_275 h_279 h_280 h_282 h_283 h_285 h_291 h_320 h_292; omega) | omega, by first | (clear h_3 h_4 h_5 h_6 h_7 h_8 h_11 h_12 h_13 h_14 h_15 h_16 h_17 h_18 h_19 h_20 h_21 h_23 h_115 h_116 h_251 h_255 h_256 h_257 h_264 h_265 h_269 h_270 h_274 h_275 h_279 h_280 h_291 h_320 h_292; omega) | omega⟩, by decide, by decide⟩ ?_
                refine q_iconst rfl ?_
                refine v_zret rfl rfl (by decide) ?_
                refine bk_inl ?_
                refine v_if_ne_f (t := 115) rfl (by decide) (by decide) ?_
                refine q_goto (t := 136) rfl (by decide) ?_
                refine Wp_ls [(0, .ref 41), (1, vi a1)] (lsub_cons rfl (lsub_cons rfl lsub_nil)) ?_
                have hI_323 := iw_41_5 (v := (nx F e1 a)) hI_294 ⟨by first | (clear h_1 h_2 h_3 h_4 h_5 h_6 h_7 h_8 h_9 h_10 h_11 h_12 h_13 h_14 h_15 h_16 h_17 h_18 h_19 h_20 h_21 h_23 h_25 h_115 h_116 h_251 h_255 h_256 h_257 h_258 h_259 h_264 h_265 h_269 h_270 h_274 h_275 h_279 h_280 h_282 h_283 h_285 h_291 h_320 h_292; omega) | omega, by first | (clear h_3 h_4 h_5 h_6 h_7 h_8 h_11 h_12 h_13 h_14 h_15 h_16 h_17 h_18 h_19 h_20 h_21 h_23 h_115 h_116 h_251 h_255 h_256 h_257 h_264 h_265 h_269 h_270 h_274 h_275 h_279 h_280 h_291 h_320 h_292; omega) | omega⟩
                have hI_324 := iw_41_6 (v := 3) hI_323 ⟨by decide, by decide⟩
                have h_325 : (up (up c_293 41 5 (nx F e1 a)) 41 6 3) 41 5 = (nx F e1 a) := ((up_n (by decide)).trans (up_e rfl))
                have h_326 : (up (up c_293 41 5 (nx F e1 a)) 41 6 3) 41 4 = (nx F e1 a) := ((up_n (by decide)).trans ((up_n (by decide)).trans (hz_296)))
                have h_327 : (up (up c_293 41 5 (nx F e1 a)) 41 6 3) 41 6 = 3 := (up_e rfl)
                have kn_328 : Hid (c_286 41 16 = jr) := (hF_288 41 16 (fun h => absurd h.2 (ni rfl))).trans (hr_jr)
                have kn_329 : Hid (c_293 41 16 = jr) := (hF_295 41 16 (fun h => absurd h.2 (ni rfl))).trans (hid kn_328)
                have h_330 : (up (up c_293 41 5 (nx F e1 a)) 41 6 3) 41 16 = jr := ((up_n (by decide)).trans ((up_n (by decide)).trans (hid kn_329)))
                have kn_331 : Hid (c_286 41 17 = st) := (hF_288 41 17 (fun h => absurd h.2 (ni rfl))).trans (hr_st)
                have kn_332 : Hid (c_293 41 17 = st) := (hF_295 41 17 (fun h => absurd h.2 (ni rfl))).trans (hid kn_331)
                have h_333 : (up (up c_293 41 5 (nx F e1 a)) 41 6 3) 41 17 = st := ((up_n (by decide)).trans ((up_n (by decide)).trans (hid kn_332)))
                have kn_334 : Hid (c_286 41 18 = si) := (hF_288 41 18 (fun h => absurd h.2 (ni rfl))).trans (hr_si)
                have kn_335 : Hid (c_293 41 18 = si) := (hF_295 41 18 (fun h => absurd h.2 (ni rfl))).trans (hid kn_334)
                have h_336 : (up (up c_293 41 5 (nx F e1 a)) 41 6 3) 41 18 = si := ((up_n (by decide)).trans ((up_n (by decide)).trans (hid kn_335)))
                have kn_337 : Hid (c_286 41 19 = du) := (hF_288 41 19 (fun h => absurd h.2 (ni rfl))).trans (hr_du)
                have kn_338 : Hid (c_293 41 19 = du) := (hF_295 41 19 (fun h => absurd h.2 (ni rfl))).trans (hid kn_337)
                have h_339 : (up (up c_293 41 5 (nx F e1 a)) 41 6 3) 41 19 = du := ((up_n (by decide)).trans ((up_n (by decide)).trans (hid kn_338)))
                have h_340 : (up (up c_293 41 5 (nx F e1 a)) 41 6 3) 41 16 = jr := ((up_n (by decide)).trans ((up_n (by decide)).trans (hid kn_329)))
                have h_341 : (up (up c_293 41 5 (nx F e1 a)) 41 6 3) 41 17 = st := ((up_n (by decide)).trans ((up_n (by decide)).trans (hid kn_332)))
                have h_342 : (up (up c_293 41 5 (nx F e1 a)) 41 6 3) 41 18 = si := ((up_n (by decide)).trans ((up_n (by decide)).trans (hid kn_335)))
                exact K (up (up c_293 41 5 (nx F e1 a)) 41 6 3)  hI_324 (fun a j hm => (up_b (Decidable.or_iff_not_imp_left.mpr (fun h1 h2 => hm (Or.inr (Or.inr (Or.inl ⟨Decidable.not_not.mp h1, h2⟩)))))).trans ((up_b (Decidable.or_iff_not_imp_left.mpr (fun h1 h2 => hm (Or.inr (Or.inl ⟨Decidable.not_not.mp h1, h2⟩))))).trans ((hF_295 a j (fun h => hm (Or.inl h))).trans ((hF_288 a j (fun h => hm (Or.inl h))).trans (hFc a j (fun q => q.elim (fun h => hm (Or.inl h)) (fun q => q.elim (fun h => hm (Or.inr (Or.inl h))) (fun q => q.elim (fun h => hm (Or.inr (Or.inr (Or.inl h)))) (fun q => q.elim (fun h => hm (Or.inr (Or.inr (Or.inr (Or.inl h))))) (fun q => q.elim (fun h => hm (Or.inr (Or.inr (Or.inr (Or.inr (Or.inl h)))))) (fun q => q.elim (fun h => hm (Or.inr (Or.inr (Or.inr (Or.inr (Or.inr (Or.inl h))))))) (fun q => q.elim (fun h => hm (Or.inr (Or.inr (Or.inr (Or.inr (Or.inr (Or.inr (Or.inl h)))))))) (fun q => q.elim (fun h => hm (Or.inr (Or.inr (Or.inr (Or.inr (Or.inr (Or.inr (Or.inr (Or.inl h))))))))) (fun q => q.elim (fun h => hm (Or.inr (Or.inr (Or.inr (Or.inr (Or.inr (Or.inr (Or.inr (Or.inr (Or.inl h)))))))))) (fun h => hm (Or.inr (Or.inr (Or.inr (Or.inr (Or.inr (Or.inr (Or.inr (Or.inr (Or.inr h)))))))))))))))))))))))) (rt_i2 ⟨⟨by first | (clear h_1 h_2 h_3 h_4 h_5 h_6 h_7 h_8 h_9 h_10 h_11 h_12 h_13 h_14 h_15 h_16 h_17 h_18 h_19 h_20 h_21 h_23 h_24 h_25 h_96 h_115 h_116 h_251 h_257 h_258 h_259 h_260 h_264 h_265 h_269 h_270 h_274 h_275 h_279 h_280 h_282 h_283 h_285 h_291 h_320 h_26 h_284 h_292; omega) | omega, by first | (clear h_1 h_2 h_3 h_4 h_5 h_6 h_7 h_8 h_9 h_10 h_11 h_12 h_13 h_14 h_15 h_16 h_17 h_18 h_19 h_20 h_21 h_23 h_24 h_25 h_96 h_115 h_116 h_251 h_257 h_258 h_259 h_260 h_264 h_265 h_269 h_270 h_274 h_275 h_279 h_280 h_282 h_283 h_285 h_291 h_320 h_26 h_284 h_292; omega) | omega⟩, by first | (clear h_1 h_2 h_3 h_4 h_5 h_6 h_7 h_8 h_9 h_10 h_11 h_12 h_13 h_14 h_15 h_16 h_17 h_18 h_19 h_20 h_21 h_23 h_25 h_115 h_116 h_251 h_255 h_256 h_257 h_258 h_264 h_265 h_269 h_270 h_274 h_275 h_279 h_280 h_282 h_283 h_285 h_291 h_320 h_292; omega) | omega, by first | (clear h_1 h_2 h_3 h_4 h_5 h_6 h_7 h_8 h_9 h_10 h_11 h_12 h_13 h_14 h_15 h_16 h_17 h_18 h_19 h_20 h_21 h_23 h_25 h_115 h_116 h_251 h_255 h_256 h_257 h_258 h_264 h_265 h_269 h_270 h_274 h_275 h_279 h_280 h_282 h_283 h_285 h_291 h_320 h_292; omega) | omega, by first | (clear h_1 h_2 h_3 h_4 h_5 h_6 h_7 h_8 h_9 h_10 h_11 h_12 h_13 h_14 h_15 h_16 h_17 h_18 h_19 h_20 h_21 h_23 h_24 h_25 h_96 h_115 h_116 h_251 h_257 h_258 h_259 h_260 h_264 h_265 h_269 h_270 h_274 h_275 h_279 h_280 h_282 h_283 h_285 h_291 h_320 h_26 h_284 h_292; omega) | omega⟩) (Or.inr (Or.inl (by first | (clear h_1 h_2 h_3 h_4 h_5 h_6 h_7 h_8 h_9 h_10 h_11 h_12 h_13 h_14 h_15 h_16 h_17 h_18 h_19 h_20 h_21 h_23 h_24 h_25 h_96 h_115 h_116 h_251 h_257 h_258 h_259 h_260 h_264 h_265 h_269 h_270 h_274 h_275 h_279 h_280 h_282 h_283 h_285 h_291 h_320 h_26 h_284 h_292; omega) | omega))) (fun hz => absurd hz (by omega)) (fun hz => absurd hz (by omega)) (fun hz => absurd hz (by omega))
              · refine v_ic_eq_f (t := 36) rfl (by decide) ⟨h_320, ⟨by first | (clear h_1 h_2 h_3 h_4 h_5 h_6 h_7 h_8 h_9 h_10 h_11 h_12 h_13 h_14 h_15 h_16 h_17 h_18 h_19 h_20 h_21 h_23 h_24 h_25 h_96 h_115 h_116 h_251 h_255 h_256 h_257 h_258 h_259 h_260 h_264 h_265 h_269 h_270 h_274 h_275 h_279 h_280 h_282 h_283 h_285 h_26 h_284; omega) | omega, by first | (clear h_1 h_2 h_3 h_4 h_5 h_6 h_7 h_8 h_9 h_10 h_11 h_12 h_13 h_14 h_15 h_16 h_17 h_18 h_19 h_20 h_21 h_23 h_24 h_25 h_96 h_115 h_116 h_251 h_255 h_256 h_257 h_258 h_259 h_260 h_264 h_265 h_269 h_270 h_274 h_275 h_279 h_280 h_282 h_283 h_285 h_26 h_284; omega) | omega⟩, by decide, by decide⟩ ?_
                refine q_iload_n rfl rfl ?_
                refine q_ldc_s rfl rfl rfl (by decide) ?_
                refine q_call rfl rfl rfl rfl (s_158_18 ?_)
                refine bk_inl ?_
                by_cases h_343 : (wv F (nx F e1 a) (ln F e1 (nx F e1 a))) = 20223685
                · refine v_ic_eq_t (t := 36) rfl (by decide) h_343 ?_
                  refine q_iconst rfl ?_
                  refine q_goto (t := 41) rfl (by decide) ?_
                  refine v_zret rfl rfl (by decide) ?_
                  refine bk_inl ?_
                  refine v_if_ne_t (t := 82) rfl (by decide) (by decide) ?_
                  refine q_iload_n rfl rfl ?_
                  refine v_bip rfl (by decide) ?_
                  refine v_ic_eq_t (t := 96) rfl (by decide) (by first | (clear h_1 h_2 h_3 h_4 h_5 h_6 h_7 h_8 h_9 h_10 h_11 h_12 h_13 h_14 h_15 h_16 h_17 h_18 h_19 h_20 h_21 h_23 h_24 h_25 h_96 h_115 h_116 h_255 h_256 h_257 h_258 h_259 h_260 h_264 h_265 h_269 h_270 h_274 h_275 h_279 h_280 h_282 h_283 h_285 h_291 h_343 h_26 h_284 h_292; omega) | omega) ?_
                  refine q_aload_n rfl rfl ?_
                  refine q_iconst rfl ?_
                  refine q_aload_n rfl rfl ?_
                  refine v_gi (z := 4) (v := (nx F e1 a)) rfl rfl rfl (by decide) rfl rfl (hz_296) ?_
                  refine v_cv rfl rfl rfl rfl (by decide) ⟨⟨rfl, rfl⟩, by decide, rfl⟩ (Nat.le_of_ble_eq_true rfl) (Nat.le_of_ble_eq_true rfl) ?_
                  refine q_aload_n rfl rfl ?_
                  have kn_344 : Hid (c_286 41 5 = (-1)) := (hF_288 41 5 (fun h => absurd h.2 (ni rfl))).trans (hc_1)
                  have kn_345 : Hid (c_293 41 5 = (-1)) := (hF_295 41 5 (fun h => absurd h.2 (ni rfl))).trans (hid kn_344)
                  refine v_gi (z := 5) (v := (-1)) rfl rfl rfl (by decide) rfl rfl (hid kn_345) ?_
                  refine q_iconst rfl ?_
                  refine v_ic_eq_t (t := 9) rfl (by decide) (by decide) ?_
                  refine q_aload_n rfl rfl ?_
                  refine q_iload_n rfl rfl ?_
                  refine v_pi (z := 5) rfl rfl rfl (by decide) rfl rfl rfl (by decide) ?_
                  refine q_aload_n rfl rfl ?_
                  refine q_iload_n rfl rfl ?_
                  refine v_pi (z := 6) rfl rfl rfl (by decide) rfl rfl rfl (by decide) ?_
                  refine q_vret rfl rfl ?_
                  refine bk_inl ?_
                  refine q_aload_n rfl rfl ?_
                  refine v_cv rfl rfl rfl rfl (by decide) ⟨⟨rfl, rfl⟩, by decide, rfl⟩ (Nat.le_of_ble_eq_true rfl) (Nat.le_of_ble_eq_true rfl) ?_
                  refine q_aload_n rfl rfl ?_
                  refine v_gi (z := 5) (v := (nx F e1 a)) rfl rfl rfl (by decide) rfl rfl ((up_n (by decide)).trans (up_e rfl)) ?_
                  refine q_iconst rfl ?_
                  refine v_ic_ne_t (t := 12) rfl (by decide) ⟨by first | (clear h_1 h_2 h_3 h_4 h_5 h_6 h_7 h_8 h_9 h_10 h_11 h_12 h_13 h_14 h_15 h_16 h_17 h_18 h_19 h_20 h_21 h_23 h_25 h_115 h_116 h_251 h_255 h_256 h_257 h_258 h_259 h_264 h_265 h_269 h_270 h_274 h_275 h_279 h_280 h_282 h_283 h_285 h_291 h_343 h_292; omega) | omega, ⟨by first | (clear h_1 h_2 h_3 h_4 h_5 h_6 h_7 h_8 h_9 h_10 h_11 h_12 h_13 h_14 h_15 h_16 h_17 h_18 h_19 h_20 h_21 h_23 h_25 h_115 h_116 h_251 h_255 h_256 h_257 h_258 h_259 h_264 h_265 h_269 h_270 h_274 h_275 h_279 h_280 h_282 h_283 h_285 h_291 h_343 h_292; omega) | omega, by first | (clear h_3 h_4 h_5 h_6 h_7 h_8 h_11 h_12 h_13 h_14 h_15 h_16 h_17 h_18 h_19 h_20 h_21 h_23 h_115 h_116 h_251 h_255 h_256 h_257 h_264 h_265 h_269 h_270 h_274 h_275 h_279 h_280 h_291 h_343 h_292; omega) | omega⟩, by decide, by decide⟩ ?_
                  refine q_iconst rfl ?_
                  refine v_zret rfl rfl (by decide) ?_
                  refine bk_inl ?_
                  refine v_if_ne_f (t := 115) rfl (by decide) (by decide) ?_
                  refine q_goto (t := 136) rfl (by decide) ?_
                  refine Wp_ls [(0, .ref 41), (1, vi a1)] (lsub_cons rfl (lsub_cons rfl lsub_nil)) ?_
                  have hI_346 := iw_41_5 (v := (nx F e1 a)) hI_294 ⟨by first | (clear h_1 h_2 h_3 h_4 h_5 h_6 h_7 h_8 h_9 h_10 h_11 h_12 h_13 h_14 h_15 h_16 h_17 h_18 h_19 h_20 h_21 h_23 h_25 h_115 h_116 h_251 h_255 h_256 h_257 h_258 h_259 h_264 h_265 h_269 h_270 h_274 h_275 h_279 h_280 h_282 h_283 h_285 h_291 h_343 h_292; omega) | omega, by first | (clear h_3 h_4 h_5 h_6 h_7 h_8 h_11 h_12 h_13 h_14 h_15 h_16 h_17 h_18 h_19 h_20 h_21 h_23 h_115 h_116 h_251 h_255 h_256 h_257 h_264 h_265 h_269 h_270 h_274 h_275 h_279 h_280 h_291 h_343 h_292; omega) | omega⟩
                  have hI_347 := iw_41_6 (v := 3) hI_346 ⟨by decide, by decide⟩
                  have h_348 : (up (up c_293 41 5 (nx F e1 a)) 41 6 3) 41 5 = (nx F e1 a) := ((up_n (by decide)).trans (up_e rfl))
                  have h_349 : (up (up c_293 41 5 (nx F e1 a)) 41 6 3) 41 4 = (nx F e1 a) := ((up_n (by decide)).trans ((up_n (by decide)).trans (hz_296)))
                  have h_350 : (up (up c_293 41 5 (nx F e1 a)) 41 6 3) 41 6 = 3 := (up_e rfl)
                  have kn_351 : Hid (c_286 41 16 = jr) := (hF_288 41 16 (fun h => absurd h.2 (ni rfl))).trans (hr_jr)
                  have kn_352 : Hid (c_293 41 16 = jr) := (hF_295 41 16 (fun h => absurd h.2 (ni rfl))).trans (hid kn_351)
                  have h_353 : (up (up c_293 41 5 (nx F e1 a)) 41 6 3) 41 16 = jr := ((up_n (by decide)).trans ((up_n (by decide)).trans (hid kn_352)))
                  have kn_354 : Hid (c_286 41 17 = st) := (hF_288 41 17 (fun h => absurd h.2 (ni rfl))).trans (hr_st)
                  have kn_355 : Hid (c_293 41 17 = st) := (hF_295 41 17 (fun h => absurd h.2 (ni rfl))).trans (hid kn_354)
                  have h_356 : (up (up c_293 41 5 (nx F e1 a)) 41 6 3) 41 17 = st := ((up_n (by decide)).trans ((up_n (by decide)).trans (hid kn_355)))
                  have kn_357 : Hid (c_286 41 18 = si) := (hF_288 41 18 (fun h => absurd h.2 (ni rfl))).trans (hr_si)
                  have kn_358 : Hid (c_293 41 18 = si) := (hF_295 41 18 (fun h => absurd h.2 (ni rfl))).trans (hid kn_357)
                  have h_359 : (up (up c_293 41 5 (nx F e1 a)) 41 6 3) 41 18 = si := ((up_n (by decide)).trans ((up_n (by decide)).trans (hid kn_358)))
                  have kn_360 : Hid (c_286 41 19 = du) := (hF_288 41 19 (fun h => absurd h.2 (ni rfl))).trans (hr_du)
                  have kn_361 : Hid (c_293 41 19 = du) := (hF_295 41 19 (fun h => absurd h.2 (ni rfl))).trans (hid kn_360)
                  have h_362 : (up (up c_293 41 5 (nx F e1 a)) 41 6 3) 41 19 = du := ((up_n (by decide)).trans ((up_n (by decide)).trans (hid kn_361)))
                  have h_363 : (up (up c_293 41 5 (nx F e1 a)) 41 6 3) 41 16 = jr := ((up_n (by decide)).trans ((up_n (by decide)).trans (hid kn_352)))
                  have h_364 : (up (up c_293 41 5 (nx F e1 a)) 41 6 3) 41 17 = st := ((up_n (by decide)).trans ((up_n (by decide)).trans (hid kn_355)))
                  have h_365 : (up (up c_293 41 5 (nx F e1 a)) 41 6 3) 41 18 = si := ((up_n (by decide)).trans ((up_n (by decide)).trans (hid kn_358)))
                  exact K (up (up c_293 41 5 (nx F e1 a)) 41 6 3)  hI_347 (fun a j hm => (up_b (Decidable.or_iff_not_imp_left.mpr (fun h1 h2 => hm (Or.inr (Or.inr (Or.inl ⟨Decidable.not_not.mp h1, h2⟩)))))).trans ((up_b (Decidable.or_iff_not_imp_left.mpr (fun h1 h2 => hm (Or.inr (Or.inl ⟨Decidable.not_not.mp h1, h2⟩))))).trans ((hF_295 a j (fun h => hm (Or.inl h))).trans ((hF_288 a j (fun h => hm (Or.inl h))).trans (hFc a j (fun q => q.elim (fun h => hm (Or.inl h)) (fun q => q.elim (fun h => hm (Or.inr (Or.inl h))) (fun q => q.elim (fun h => hm (Or.inr (Or.inr (Or.inl h)))) (fun q => q.elim (fun h => hm (Or.inr (Or.inr (Or.inr (Or.inl h))))) (fun q => q.elim (fun h => hm (Or.inr (Or.inr (Or.inr (Or.inr (Or.inl h)))))) (fun q => q.elim (fun h => hm (Or.inr (Or.inr (Or.inr (Or.inr (Or.inr (Or.inl h))))))) (fun q => q.elim (fun h => hm (Or.inr (Or.inr (Or.inr (Or.inr (Or.inr (Or.inr (Or.inl h)))))))) (fun q => q.elim (fun h => hm (Or.inr (Or.inr (Or.inr (Or.inr (Or.inr (Or.inr (Or.inr (Or.inl h))))))))) (fun q => q.elim (fun h => hm (Or.inr (Or.inr (Or.inr (Or.inr (Or.inr (Or.inr (Or.inr (Or.inr (Or.inl h)))))))))) (fun h => hm (Or.inr (Or.inr (Or.inr (Or.inr (Or.inr (Or.inr (Or.inr (Or.inr (Or.inr h)))))))))))))))))))))))) (rt_i2 ⟨⟨by first | (clear h_1 h_2 h_3 h_4 h_5 h_6 h_7 h_8 h_9 h_10 h_11 h_12 h_13 h_14 h_15 h_16 h_17 h_18 h_19 h_20 h_21 h_23 h_24 h_25 h_96 h_115 h_116 h_251 h_257 h_258 h_259 h_260 h_264 h_265 h_269 h_270 h_274 h_275 h_279 h_280 h_282 h_283 h_285 h_291 h_343 h_26 h_284 h_292; omega) | omega, by first | (clear h_1 h_2 h_3 h_4 h_5 h_6 h_7 h_8 h_9 h_10 h_11 h_12 h_13 h_14 h_15 h_16 h_17 h_18 h_19 h_20 h_21 h_23 h_24 h_25 h_96 h_115 h_116 h_251 h_257 h_258 h_259 h_260 h_264 h_265 h_269 h_270 h_274 h_275 h_279 h_280 h_282 h_283 h_285 h_291 h_343 h_26 h_284 h_292; omega) | omega⟩, by first | (clear h_1 h_2 h_3 h_4 h_5 h_6 h_7 h_8 h_9 h_10 h_11 h_12 h_13 h_14 h_15 h_16 h_17 h_18 h_19 h_20 h_21 h_23 h_25 h_115 h_116 h_251 h_255 h_256 h_257 h_258 h_264 h_265 h_269 h_270 h_274 h_275 h_279 h_280 h_282 h_283 h_285 h_291 h_343 h_292; omega) | omega, by first | (clear h_1 h_2 h_3 h_4 h_5 h_6 h_7 h_8 h_9 h_10 h_11 h_12 h_13 h_14 h_15 h_16 h_17 h_18 h_19 h_20 h_21 h_23 h_25 h_115 h_116 h_251 h_255 h_256 h_257 h_258 h_264 h_265 h_269 h_270 h_274 h_275 h_279 h_280 h_282 h_283 h_285 h_291 h_343 h_292; omega) | omega, by first | (clear h_1 h_2 h_3 h_4 h_5 h_6 h_7 h_8 h_9 h_10 h_11 h_12 h_13 h_14 h_15 h_16 h_17 h_18 h_19 h_20 h_21 h_23 h_24 h_25 h_96 h_115 h_116 h_251 h_257 h_258 h_259 h_260 h_264 h_265 h_269 h_270 h_274 h_275 h_279 h_280 h_282 h_283 h_285 h_291 h_343 h_26 h_284 h_292; omega) | omega⟩) (Or.inr (Or.inl (by first | (clear h_1 h_2 h_3 h_4 h_5 h_6 h_7 h_8 h_9 h_10 h_11 h_12 h_13 h_14 h_15 h_16 h_17 h_18 h_19 h_20 h_21 h_23 h_24 h_25 h_96 h_115 h_116 h_251 h_257 h_258 h_259 h_260 h_264 h_265 h_269 h_270 h_274 h_275 h_279 h_280 h_282 h_283 h_285 h_291 h_343 h_26 h_284 h_292; omega) | omega))) (fun hz => absurd hz (by omega)) (fun hz => absurd hz (by omega)) (fun hz => absurd hz (by omega))
                · refine v_ic_eq_f (t := 36) rfl (by decide) ⟨h_343, ⟨by first | (clear h_1 h_2 h_3 h_4 h_5 h_6 h_7 h_8 h_9 h_10 h_11 h_12 h_13 h_14 h_15 h_16 h_17 h_18 h_19 h_20 h_21 h_23 h_24 h_25 h_96 h_115 h_116 h_251 h_255 h_256 h_257 h_258 h_259 h_260 h_264 h_265 h_269 h_270 h_274 h_275 h_279 h_280 h_282 h_283 h_285 h_26 h_284; omega) | omega, by first | (clear h_1 h_2 h_3 h_4 h_5 h_6 h_7 h_8 h_9 h_10 h_11 h_12 h_13 h_14 h_15 h_16 h_17 h_18 h_19 h_20 h_21 h_23 h_24 h_25 h_96 h_115 h_116 h_251 h_255 h_256 h_257 h_258 h_259 h_260 h_264 h_265 h_269 h_270 h_274 h_275 h_279 h_280 h_282 h_283 h_285 h_26 h_284; omega) | omega⟩, by decide, by decide⟩ ?_
                  refine q_iload_n rfl rfl ?_
                  refine q_ldc_s rfl rfl rfl (by decide) ?_
                  refine q_call rfl rfl rfl rfl (s_158_19 ?_)
                  refine bk_inl ?_
                  refine v_ic_ne_f (t := 40) rfl (by decide) (by first | (clear h_1 h_2 h_3 h_4 h_5 h_6 h_7 h_8 h_9 h_10 h_11 h_12 h_13 h_14 h_15 h_16 h_17 h_18 h_19 h_20 h_21 h_23 h_24 h_25 h_96 h_115 h_251 h_255 h_256 h_257 h_258 h_259 h_260 h_264 h_265 h_269 h_270 h_274 h_275 h_279 h_280 h_282 h_283 h_285 h_26 h_284; omega) | omega) ?_
                  refine q_iconst rfl ?_
                  refine q_goto (t := 41) rfl (by decide) ?_
                  refine v_zret rfl rfl (by decide) ?_
                  refine bk_inl ?_
                  refine v_if_ne_t (t := 82) rfl (by decide) (by decide) ?_
                  refine q_iload_n rfl rfl ?_
                  refine v_bip rfl (by decide) ?_
                  refine v_ic_eq_t (t := 96) rfl (by decide) (by first | (clear h_1 h_2 h_3 h_4 h_5 h_6 h_7 h_8 h_9 h_10 h_11 h_12 h_13 h_14 h_15 h_16 h_17 h_18 h_19 h_20 h_21 h_23 h_24 h_25 h_96 h_115 h_116 h_255 h_256 h_257 h_258 h_259 h_260 h_264 h_265 h_269 h_270 h_274 h_275 h_279 h_280 h_282 h_283 h_285 h_291 h_26 h_284 h_292; omega) | omega) ?_
                  refine q_aload_n rfl rfl ?_
                  refine q_iconst rfl ?_
                  refine q_aload_n rfl rfl ?_
                  refine v_gi (z := 4) (v := (nx F e1 a)) rfl rfl rfl (by decide) rfl rfl (hz_296) ?_
                  refine v_cv rfl rfl rfl rfl (by decide) ⟨⟨rfl, rfl⟩, by decide, rfl⟩ (Nat.le_of_ble_eq_true rfl) (Nat.le_of_ble_eq_true rfl) ?_
                  refine q_aload_n rfl rfl ?_
                  have kn_366 : Hid (c_286 41 5 = (-1)) := (hF_288 41 5 (fun h => absurd h.2 (ni rfl))).trans (hc_1)
                  have kn_367 : Hid (c_293 41 5 = (-1)) := (hF_295 41 5 (fun h => absurd h.2 (ni rfl))).trans (hid kn_366)
                  refine v_gi (z := 5) (v := (-1)) rfl rfl rfl (by decide) rfl rfl (hid kn_367) ?_
                  refine q_iconst rfl ?_
                  refine v_ic_eq_t (t := 9) rfl (by decide) (by decide) ?_
                  refine q_aload_n rfl rfl ?_
                  refine q_iload_n rfl rfl ?_
                  refine v_pi (z := 5) rfl rfl rfl (by decide) rfl rfl rfl (by decide) ?_
                  refine q_aload_n rfl rfl ?_
                  refine q_iload_n rfl rfl ?_
                  refine v_pi (z := 6) rfl rfl rfl (by decide) rfl rfl rfl (by decide) ?_
                  refine q_vret rfl rfl ?_
                  refine bk_inl ?_
                  refine q_aload_n rfl rfl ?_
                  refine v_cv rfl rfl rfl rfl (by decide) ⟨⟨rfl, rfl⟩, by decide, rfl⟩ (Nat.le_of_ble_eq_true rfl) (Nat.le_of_ble_eq_true rfl) ?_
                  refine q_aload_n rfl rfl ?_
                  refine v_gi (z := 5) (v := (nx F e1 a)) rfl rfl rfl (by decide) rfl rfl ((up_n (by decide)).trans (up_e rfl)) ?_
                  refine q_iconst rfl ?_
                  refine v_ic_ne_t (t := 12) rfl (by decide) ⟨by first | (clear h_1 h_2 h_3 h_4 h_5 h_6 h_7 h_8 h_9 h_10 h_11 h_12 h_13 h_14 h_15 h_16 h_17 h_18 h_19 h_20 h_21 h_23 h_25 h_115 h_116 h_251 h_255 h_256 h_257 h_258 h_259 h_264 h_265 h_269 h_270 h_274 h_275 h_279 h_280 h_282 h_283 h_285 h_291 h_292; omega) | omega, ⟨by first | (clear h_1 h_2 h_3 h_4 h_5 h_6 h_7 h_8 h_9 h_10 h_11 h_12 h_13 h_14 h_15 h_16 h_17 h_18 h_19 h_20 h_21 h_23 h_25 h_115 h_116 h_251 h_255 h_256 h_257 h_258 h_259 h_264 h_265 h_269 h_270 h_274 h_275 h_279 h_280 h_282 h_283 h_285 h_291 h_292; omega) | omega, by first | (clear h_3 h_4 h_5 h_6 h_7 h_8 h_11 h_12 h_13 h_14 h_15 h_16 h_17 h_18 h_19 h_20 h_21 h_23 h_115 h_116 h_251 h_255 h_256 h_257 h_264 h_265 h_269 h_270 h_274 h_275 h_279 h_280 h_291 h_292; omega) | omega⟩, by decide, by decide⟩ ?_
                  refine q_iconst rfl ?_
                  refine v_zret rfl rfl (by decide) ?_
                  refine bk_inl ?_
                  refine v_if_ne_f (t := 115) rfl (by decide) (by decide) ?_
                  refine q_goto (t := 136) rfl (by decide) ?_
                  refine Wp_ls [(0, .ref 41), (1, vi a1)] (lsub_cons rfl (lsub_cons rfl lsub_nil)) ?_
                  have hI_368 := iw_41_5 (v := (nx F e1 a)) hI_294 ⟨by first | (clear h_1 h_2 h_3 h_4 h_5 h_6 h_7 h_8 h_9 h_10 h_11 h_12 h_13 h_14 h_15 h_16 h_17 h_18 h_19 h_20 h_21 h_23 h_25 h_115 h_116 h_251 h_255 h_256 h_257 h_258 h_259 h_264 h_265 h_269 h_270 h_274 h_275 h_279 h_280 h_282 h_283 h_285 h_291 h_292; omega) | omega, by first | (clear h_3 h_4 h_5 h_6 h_7 h_8 h_11 h_12 h_13 h_14 h_15 h_16 h_17 h_18 h_19 h_20 h_21 h_23 h_115 h_116 h_251 h_255 h_256 h_257 h_264 h_265 h_269 h_270 h_274 h_275 h_279 h_280 h_291 h_292; omega) | omega⟩
                  have hI_369 := iw_41_6 (v := 3) hI_368 ⟨by decide, by decide⟩
                  have h_370 : (up (up c_293 41 5 (nx F e1 a)) 41 6 3) 41 5 = (nx F e1 a) := ((up_n (by decide)).trans (up_e rfl))
                  have h_371 : (up (up c_293 41 5 (nx F e1 a)) 41 6 3) 41 4 = (nx F e1 a) := ((up_n (by decide)).trans ((up_n (by decide)).trans (hz_296)))
                  have h_372 : (up (up c_293 41 5 (nx F e1 a)) 41 6 3) 41 6 = 3 := (up_e rfl)
                  have kn_373 : Hid (c_286 41 16 = jr) := (hF_288 41 16 (fun h => absurd h.2 (ni rfl))).trans (hr_jr)
                  have kn_374 : Hid (c_293 41 16 = jr) := (hF_295 41 16 (fun h => absurd h.2 (ni rfl))).trans (hid kn_373)
                  have h_375 : (up (up c_293 41 5 (nx F e1 a)) 41 6 3) 41 16 = jr := ((up_n (by decide)).trans ((up_n (by decide)).trans (hid kn_374)))
                  have kn_376 : Hid (c_286 41 17 = st) := (hF_288 41 17 (fun h => absurd h.2 (ni rfl))).trans (hr_st)
                  have kn_377 : Hid (c_293 41 17 = st) := (hF_295 41 17 (fun h => absurd h.2 (ni rfl))).trans (hid kn_376)
                  have h_378 : (up (up c_293 41 5 (nx F e1 a)) 41 6 3) 41 17 = st := ((up_n (by decide)).trans ((up_n (by decide)).trans (hid kn_377)))
                  have kn_379 : Hid (c_286 41 18 = si) := (hF_288 41 18 (fun h => absurd h.2 (ni rfl))).trans (hr_si)
                  have kn_380 : Hid (c_293 41 18 = si) := (hF_295 41 18 (fun h => absurd h.2 (ni rfl))).trans (hid kn_379)
                  have h_381 : (up (up c_293 41 5 (nx F e1 a)) 41 6 3) 41 18 = si := ((up_n (by decide)).trans ((up_n (by decide)).trans (hid kn_380)))
                  have kn_382 : Hid (c_286 41 19 = du) := (hF_288 41 19 (fun h => absurd h.2 (ni rfl))).trans (hr_du)
                  have kn_383 : Hid (c_293 41 19 = du) := (hF_295 41 19 (fun h => absurd h.2 (ni rfl))).trans (hid kn_382)
                  have h_384 : (up (up c_293 41 5 (nx F e1 a)) 41 6 3) 41 19 = du := ((up_n (by decide)).trans ((up_n (by decide)).trans (hid kn_383)))
                  have h_385 : (up (up c_293 41 5 (nx F e1 a)) 41 6 3) 41 16 = jr := ((up_n (by decide)).trans ((up_n (by decide)).trans (hid kn_374)))
                  have h_386 : (up (up c_293 41 5 (nx F e1 a)) 41 6 3) 41 17 = st := ((up_n (by decide)).trans ((up_n (by decide)).trans (hid kn_377)))
                  have h_387 : (up (up c_293 41 5 (nx F e1 a)) 41 6 3) 41 18 = si := ((up_n (by decide)).trans ((up_n (by decide)).trans (hid kn_380)))
                  exact K (up (up c_293 41 5 (nx F e1 a)) 41 6 3)  hI_369 (fun a j hm => (up_b (Decidable.or_iff_not_imp_left.mpr (fun h1 h2 => hm (Or.inr (Or.inr (Or.inl ⟨Decidable.not_not.mp h1, h2⟩)))))).trans ((up_b (Decidable.or_iff_not_imp_left.mpr (fun h1 h2 => hm (Or.inr (Or.inl ⟨Decidable.not_not.mp h1, h2⟩))))).trans ((hF_295 a j (fun h => hm (Or.inl h))).trans ((hF_288 a j (fun h => hm (Or.inl h))).trans (hFc a j (fun q => q.elim (fun h => hm (Or.inl h)) (fun q => q.elim (fun h => hm (Or.inr (Or.inl h))) (fun q => q.elim (fun h => hm (Or.inr (Or.inr (Or.inl h)))) (fun q => q.elim (fun h => hm (Or.inr (Or.inr (Or.inr (Or.inl h))))) (fun q => q.elim (fun h => hm (Or.inr (Or.inr (Or.inr (Or.inr (Or.inl h)))))) (fun q => q.elim (fun h => hm (Or.inr (Or.inr (Or.inr (Or.inr (Or.inr (Or.inl h))))))) (fun q => q.elim (fun h => hm (Or.inr (Or.inr (Or.inr (Or.inr (Or.inr (Or.inr (Or.inl h)))))))) (fun q => q.elim (fun h => hm (Or.inr (Or.inr (Or.inr (Or.inr (Or.inr (Or.inr (Or.inr (Or.inl h))))))))) (fun q => q.elim (fun h => hm (Or.inr (Or.inr (Or.inr (Or.inr (Or.inr (Or.inr (Or.inr (Or.inr (Or.inl h)))))))))) (fun h => hm (Or.inr (Or.inr (Or.inr (Or.inr (Or.inr (Or.inr (Or.inr (Or.inr (Or.inr h)))))))))))))))))))))))) (rt_i2 ⟨⟨by first | (clear h_1 h_2 h_3 h_4 h_5 h_6 h_7 h_8 h_9 h_10 h_11 h_12 h_13 h_14 h_15 h_16 h_17 h_18 h_19 h_20 h_21 h_23 h_24 h_25 h_96 h_115 h_116 h_251 h_257 h_258 h_259 h_260 h_264 h_265 h_269 h_270 h_274 h_275 h_279 h_280 h_282 h_283 h_285 h_291 h_26 h_284 h_292; omega) | omega, by first | (clear h_1 h_2 h_3 h_4 h_5 h_6 h_7 h_8 h_9 h_10 h_11 h_12 h_13 h_14 h_15 h_16 h_17 h_18 h_19 h_20 h_21 h_23 h_24 h_25 h_96 h_115 h_116 h_251 h_257 h_258 h_259 h_260 h_264 h_265 h_269 h_270 h_274 h_275 h_279 h_280 h_282 h_283 h_285 h_291 h_26 h_284 h_292; omega) | omega⟩, by first | (clear h_1 h_2 h_3 h_4 h_5 h_6 h_7 h_8 h_9 h_10 h_11 h_12 h_13 h_14 h_15 h_16 h_17 h_18 h_19 h_20 h_21 h_23 h_25 h_115 h_116 h_251 h_255 h_256 h_257 h_258 h_264 h_265 h_269 h_270 h_274 h_275 h_279 h_280 h_282 h_283 h_285 h_291 h_292; omega) | omega, by first | (clear h_1 h_2 h_3 h_4 h_5 h_6 h_7 h_8 h_9 h_10 h_11 h_12 h_13 h_14 h_15 h_16 h_17 h_18 h_19 h_20 h_21 h_23 h_25 h_115 h_116 h_251 h_255 h_256 h_257 h_258 h_264 h_265 h_269 h_270 h_274 h_275 h_279 h_280 h_282 h_283 h_285 h_291 h_292; omega) | omega, by first | (clear h_1 h_2 h_3 h_4 h_5 h_6 h_7 h_8 h_9 h_10 h_11 h_12 h_13 h_14 h_15 h_16 h_17 h_18 h_19 h_20 h_21 h_23 h_24 h_25 h_96 h_115 h_116 h_251 h_257 h_258 h_259 h_260 h_264 h_265 h_269 h_270 h_274 h_275 h_279 h_280 h_282 h_283 h_285 h_291 h_26 h_284 h_292; omega) | omega⟩) (Or.inr (Or.inl (by first | (clear h_1 h_2 h_3 h_4 h_5 h_6 h_7 h_8 h_9 h_10 h_11 h_12 h_13 h_14 h_15 h_16 h_17 h_18 h_19 h_20 h_21 h_23 h_24 h_25 h_96 h_115 h_116 h_251 h_257 h_258 h_259 h_260 h_264 h_265 h_269 h_270 h_274 h_275 h_279 h_280 h_282 h_283 h_285 h_291 h_26 h_284 h_292; omega) | omega))) (fun hz => absurd hz (by omega)) (fun hz => absurd hz (by omega)) (fun hz => absurd hz (by omega))
        · refine v_ic_eq_f (t := 53) rfl (by decide) ⟨h_251, ⟨(Int.le_trans (by decide) hv.1), (Int.le_trans hv.2 (by decide))⟩, by decide, by decide⟩ ?_
          refine q_aload_n rfl rfl ?_
          refine q_iload rfl rfl ?_
          refine v_cv rfl rfl rfl (ck_p0 hA) (by omega) ⟨⟨rfl, rfl⟩, by decide, rfl⟩ (Nat.le_of_ble_eq_true rfl) (Nat.le_of_ble_eq_true rfl) ?_
          refine q_iload_n rfl rfl ?_
          by_cases h_388 : (wd8_0 F (nx F e1 a) (ln F e1 (nx F e1 a))) = 0
          · as_aux_lemma =>
              skip
              refine v_tsw_i (t := 28) 0 rfl (by omega) (by decide) rfl (by decide) ?_
              refine q_aload_n rfl rfl ?_
              have kn_389 : Hid (c_27 A 0 = jr) := (hF_29 A 0 (fun h => absurd h.1 (np0 hA rfl))).trans (hg_jr)
              have kn_390 : Hid (c_87 A 0 = jr) := (hF_89 A 0 (fun h => absurd h.1 (np0 hA rfl))).trans (hid kn_389)
              have kn_391 : Hid (c_112 A 0 = jr) := (hF_114 A 0 (fun q => q.elim (fun h => absurd h.1 (np0 hA rfl)) (fun q => q.elim (fun h => absurd h.1 (np0 hA rfl)) (fun h => absurd h.1 (np0 hA rfl))))).trans (hid kn_390)
              refine v_gi (z := 0) (v := jr) rfl rfl (ck_p0 hA) (by omega) rfl rfl (hid kn_391) ?_
              refine v_bip rfl (by decide) ?_
              by_cases h_392 : jr ≠ 6
              · refine v_ic_ne_t (t := 41) rfl (by decide) ⟨h_392, ⟨(Int.le_trans (by decide) hjr.1), (Int.le_trans hjr.2 (by decide))⟩, by decide, by decide⟩ ?_
                refine q_iconst rfl ?_
                refine v_zret rfl rfl (by decide) ?_
                refine bk_inl ?_
                refine v_if_eq_t (t := 59) rfl (by decide) (by decide) ?_
                refine q_aload_n rfl rfl ?_
                refine v_cv rfl rfl rfl rfl (by decide) ⟨⟨rfl, rfl⟩, by decide, rfl⟩ (Nat.le_of_ble_eq_true rfl) (Nat.le_of_ble_eq_true rfl) ?_
                refine q_aload_n rfl rfl ?_
                refine v_gi (z := 4) (v := 0) rfl rfl rfl (by decide) rfl rfl (hz_118) ?_
                refine v_if_ne_f (t := 11) rfl (by decide) (by decide) ?_
                refine q_iconst rfl ?_
                refine q_goto (t := 12) rfl (by decide) ?_
                refine v_zret rfl rfl (by decide) ?_
                refine bk_inl ?_
                refine v_if_eq_f (t := 73) rfl (by decide) (by decide) ?_
                refine q_aload_n rfl rfl ?_
                refine q_aload_n rfl rfl ?_
                refine q_iload rfl rfl ?_
                have hw_393 : (wd8_0 F (nx F e1 a) (ln F e1 (nx F e1 a))) = 0 := by omega
                rw [hw_393]
                have h_394 : c_112 A 0 = jr := (hid kn_391)
                have kn_395 : Hid (c_27 A 1 = st) := (hF_29 A 1 (fun h => absurd h.1 (np0 hA rfl))).trans (hg_st)
                have kn_396 : Hid (c_87 A 1 = st) := (hF_89 A 1 (fun h => absurd h.1 (np0 hA rfl))).trans (hid kn_395)
                have kn_397 : Hid (c_112 A 1 = st) := (hF_114 A 1 (fun q => q.elim (fun h => absurd h.1 (np0 hA rfl)) (fun q => q.elim (fun h => absurd h.1 (np0 hA rfl)) (fun h => absurd h.1 (np0 hA rfl))))).trans (hid kn_396)
                have h_398 : c_112 A 1 = st := (hid kn_397)
                have kn_399 : Hid (c_27 A 2 = si) := (hF_29 A 2 (fun h => absurd h.1 (np0 hA rfl))).trans (hg_si)
                have kn_400 : Hid (c_87 A 2 = si) := (hF_89 A 2 (fun h => absurd h.1 (np0 hA rfl))).trans (hid kn_399)
                have kn_401 : Hid (c_112 A 2 = si) := (hF_114 A 2 (fun q => q.elim (fun h => absurd h.1 (np0 hA rfl)) (fun q => q.elim (fun h => absurd h.1 (np0 hA rfl)) (fun h => absurd h.1 (np0 hA rfl))))).trans (hid kn_400)
                have h_402 : c_112 A 2 = si := (hid kn_401)
                refine v_cv rfl rfl rfl (ck_p0 hA) (by omega) ⟨⟨rfl, rfl⟩, by decide, rfl⟩ (Nat.le_of_ble_eq_true rfl) (Nat.le_of_ble_eq_true rfl) (fn_of (s_33 (a2 := 0) hI_113 hA (show 0 ≤ 0 ∧ 0 ≤ 100 from ⟨by decide, by decide⟩) (Or.inr (by first | (clear h_1 h_2 h_3 h_4 h_5 h_6 h_7 h_8 h_9 h_10 h_13 h_14 h_15 h_16 h_17 h_18 h_19 h_20 h_21 h_23 h_24 h_25 h_96 h_115 h_116 h_26; omega) | omega)) (Or.inl (by first | (clear h_1 h_2 h_3 h_4 h_5 h_6 h_7 h_8 h_9 h_10 h_11 h_12 h_13 h_14 h_15 h_16 h_17 h_18 h_19 h_20 h_21 h_23 h_24 h_25 h_96 h_115 h_116 h_26 h_392; omega) | omega)) (Or.inl (by first | (clear h_1 h_2 h_3 h_4 h_5 h_6 h_7 h_8 h_9 h_10 h_11 h_12 h_13 h_14 h_15 h_16 h_17 h_18 h_19 h_20 h_21 h_23 h_24 h_25 h_96 h_115 h_116 h_26 h_392; omega) | omega)) (fun c_403 hI_404 hF_405 => ?_)))
                intro hG_406
                refine bk_inl ?_
                refine q_aload_n rfl rfl ?_
                refine q_ldc_s rfl rfl rfl (by decide) ?_
                have h_407 := ir_1_4 hI_404
                refine v_cv rfl rfl rfl rfl (by decide) ⟨⟨rfl, rfl⟩, by decide, rfl⟩ (Nat.le_of_ble_eq_true rfl) (Nat.le_of_ble_eq_true rfl) (fn_of (s_11 hI_404 (q := 9) (nt := 1) (by decide) (by decide) (by decide) (fun c_408 hI_409 hF_410 => ?_)))
                intro hG_411
                refine bk_inl ?_
                refine v_iinc (v := v + 1) rfl rfl (by decide) rfl ?_
                refine q_goto (t := 6) rfl (by decide) ?_
                have h_412 := ir_1_4 hI_409
                by_cases h_413 : c_408 1 4 = 0
                · skip
                  refine Wp_ls [(0, .ref A), (1, .ref 1), (2, vi (v + 1))] (lsub_cons rfl (lsub_cons rfl (lsub_cons rfl lsub_nil))) ?_
                  refine gh_stop (s_34_l (sc := sc) (d := dh + 18) (c := c_408) (Z := fun _ => True) hI_409 hA (fun _ _ _ => trivial) 124 c_408 (v + 1) hI_409 (fun a j hm => rfl) ⟨by omega, by omega⟩ (by omega)) (fun hG_414 => ?_)
                  refine q_aload_n rfl rfl ?_
                  refine v_cv rfl rfl rfl rfl (by decide) ⟨⟨rfl, rfl⟩, by decide, rfl⟩ (Nat.le_of_ble_eq_true rfl) (Nat.le_of_ble_eq_true rfl) ?_
                  refine q_aload_n rfl rfl ?_
                  refine v_gi (z := 5) (v := (-1)) rfl rfl rfl (by decide) rfl rfl (hc_1) ?_
                  refine q_iconst rfl ?_
                  refine v_ic_ne_f (t := 12) rfl (by decide) (by decide) ?_
                  refine q_iconst rfl ?_
                  refine q_goto (t := 13) rfl (by decide) ?_
                  refine v_zret rfl rfl (by decide) ?_
                  refine bk_inl ?_
                  refine v_if_eq_f (t := 136) rfl (by decide) (by decide) ?_
                  refine q_aload_n rfl rfl ?_
                  refine v_cv rfl rfl rfl rfl (by decide) ⟨⟨rfl, rfl⟩, by decide, rfl⟩ (Nat.le_of_ble_eq_true rfl) (Nat.le_of_ble_eq_true rfl) ?_
                  refine q_aload_n rfl rfl ?_
                  have kn_415 : Hid (c2 41 3 = e1) := (hFc 41 3 (fun q => q.elim (fun h => absurd h.2 (ni rfl)) (fun q => q.elim (fun h => absurd h.2 (ni rfl)) (fun q => q.elim (fun h => absurd h.2 (ni rfl)) (fun q => q.elim (fun h => absurd h.2 (ni rfl)) (fun q => q.elim (fun h => absurd h.2 (ni rfl)) (fun q => q.elim (fun h => absurd h.2 (ni rfl)) (fun q => q.elim (fun h => absurd h.2 (ni rfl)) (fun q => q.elim (fun h => absurd h (nn rfl)) (fun q => q.elim (fun h => absurd h (nn rfl)) (fun h => absurd h (nn rfl)))))))))))).trans (hr_e1)
                  have h_416 : -2147483648 ≤ (H (nx F e1 a)) ∧ (H (nx F e1 a)) ≤ 2147483647 := by rw [← hH (nx F e1 a)]; exact ir_43 hI (nx F e1 a)
                  have h_417 := hU (nx F e1 a) (by omega) (by omega)
                  have h_418 := hb_or (b := H) (e := e1) (r := (nx F e1 a))
                  have h_419 := hb_bd (b := H) (e := e1) (r := (nx F e1 a)) (lo := -2147483648) (hi := 2147483647) ⟨by omega, by omega⟩ (by decide)
                  refine v_cv rfl rfl rfl rfl (by decide) ⟨⟨rfl, rfl⟩, by decide, rfl⟩ (Nat.le_of_ble_eq_true rfl) (Nat.le_of_ble_eq_true rfl) (f_154 (e1 := e1) (a9 := a) (B := H) (r8 := (nx F e1 a)) (r := (hb H e1 (nx F e1 a))) hI2 ((hid kn_415)) ((hr_a)) (fun j => (hFc 43 j (fun q => q.elim (fun h => absurd h.1 (nn rfl)) (fun q => q.elim (fun h => absurd h.1 (nn rfl)) (fun q => q.elim (fun h => absurd h.1 (nn rfl)) (fun q => q.elim (fun h => absurd h.1 (nn rfl)) (fun q => q.elim (fun h => absurd h.1 (nn rfl)) (fun q => q.elim (fun h => absurd h.1 (nn rfl)) (fun q => q.elim (fun h => absurd h.1 (nn rfl)) (fun q => q.elim (fun h => absurd h (nn rfl)) (fun q => q.elim (fun h => absurd h (nn rfl)) (fun h => absurd h (nn rfl)))))))))))).trans (hH j)) ((nx_tr hU (by first | (clear h_1 h_2 h_3 h_4 h_5 h_6 h_7 h_8 h_9 h_10 h_11 h_12 h_13 h_14 h_15 h_16 h_17 h_18 h_19 h_20 h_21 h_23 h_24 h_25 h_96 h_115 h_116 h_407 h_412 h_413 h_26 h_392; omega) | omega) (by first | (clear h_3 h_4 h_5 h_6 h_7 h_8 h_9 h_10 h_11 h_12 h_13 h_14 h_15 h_16 h_17 h_18 h_19 h_20 h_21 h_23 h_25 h_115 h_116 h_407 h_412 h_413 h_392; omega) | omega)).trans (rfl)) rfl (fun c_420 hI_421 hF_422 h_423 => ?_))
                  refine bk_inl ?_
                  refine q_pop rfl rfl ?_
                  refine q_aload_n rfl rfl ?_
                  refine v_gi (z := 4) (v := (nx F e1 a)) rfl rfl rfl (by decide) rfl rfl (h_423) ?_
                  refine q_aload_n rfl rfl ?_
                  have kn_424 : Hid (c_420 41 3 = e1) := (hF_422 41 3 (fun h => absurd h.2 (ni rfl))).trans (hid kn_415)
                  refine v_gi (z := 3) (v := e1) rfl rfl rfl (by decide) rfl rfl (hid kn_424) ?_
                  refine v_ic_ge_f (t := 20) rfl (by decide) ⟨by first | (clear h_1 h_2 h_3 h_4 h_5 h_6 h_7 h_8 h_9 h_10 h_11 h_12 h_13 h_14 h_15 h_16 h_17 h_18 h_19 h_20 h_21 h_23 h_25 h_115 h_116 h_407 h_412 h_413 h_416 h_417 h_419 h_392; omega) | omega, by first | (clear h_1 h_2 h_3 h_4 h_5 h_6 h_7 h_8 h_9 h_10 h_11 h_12 h_13 h_14 h_15 h_16 h_17 h_18 h_19 h_20 h_21 h_23 h_24 h_25 h_96 h_115 h_116 h_407 h_412 h_413 h_416 h_417 h_419 h_26 h_392 h_418; omega) | omega, (Int.le_trans (rg_eq hg_e1 h_1).2 (by decide))⟩ ?_
                  refine q_iconst rfl ?_
                  refine q_goto (t := 21) rfl (by decide) ?_
                  refine v_zret rfl rfl (by decide) ?_
                  refine bk_inl ?_
                  refine v_if_eq_f (t := 136) rfl (by decide) (by decide) ?_
                  refine q_aload_n rfl rfl ?_
                  have h_425 := wv_bd (b := F) (r := (nx F e1 a)) (l := (ln F e1 (nx F e1 a))) (fun j h1 h2 => ⟨(ln_in (e := e1) (a := (nx F e1 a)) h1 h2).1, (ln_in (e := e1) (a := (nx F e1 a)) h1 h2).2.1⟩)
                  have h_426 := wr8_0 (b := F) (r := (nx F e1 a)) (l := (ln F e1 (nx F e1 a))) (by omega) (fun j h1 h2 => ⟨(ln_in (e := e1) (a := (nx F e1 a)) h1 h2).1, (ln_in (e := e1) (a := (nx F e1 a)) h1 h2).2.1⟩) (by omega)
                  refine v_cv rfl rfl rfl rfl (by decide) ⟨⟨rfl, rfl⟩, by decide, rfl⟩ (Nat.le_of_ble_eq_true rfl) (Nat.le_of_ble_eq_true rfl) (f_157 (e1 := e1) (a9 := (nx F e1 a)) (B := H) (r8 := (nx F e1 a)) (L8 := (ln F e1 (nx F e1 a))) (W8 := (wv F (nx F e1 a) (ln F e1 (nx F e1 a)))) hI_421 ((hid kn_424)) ((h_423)) (fun j => ((hF_422 43 j (fun h => absurd h.1 (nn rfl))).trans (hFc 43 j (fun q => q.elim (fun h => absurd h.1 (nn rfl)) (fun q => q.elim (fun h => absurd h.1 (nn rfl)) (fun q => q.elim (fun h => absurd h.1 (nn rfl)) (fun q => q.elim (fun h => absurd h.1 (nn rfl)) (fun q => q.elim (fun h => absurd h.1 (nn rfl)) (fun q => q.elim (fun h => absurd h.1 (nn rfl)) (fun q => q.elim (fun h => absurd h.1 (nn rfl)) (fun q => q.elim (fun h => absurd h (nn rfl)) (fun q => q.elim (fun h => absurd h (nn rfl)) (fun h => absurd h (nn rfl))))))))))))).trans (hH j)) ((nx_tr hU (by first | (clear h_1 h_2 h_3 h_4 h_5 h_6 h_7 h_8 h_9 h_10 h_11 h_12 h_13 h_14 h_15 h_16 h_17 h_18 h_19 h_20 h_21 h_23 h_25 h_115 h_116 h_407 h_412 h_413 h_416 h_417 h_419 h_392; omega) | omega) (by first | (clear h_3 h_4 h_5 h_6 h_7 h_8 h_9 h_10 h_11 h_12 h_13 h_14 h_15 h_16 h_17 h_18 h_19 h_20 h_21 h_23 h_25 h_115 h_116 h_407 h_412 h_413 h_416 h_417 h_419 h_392; omega) | omega)).trans ((nx_z (by omega)))) ((ln_tr hU (by first | (clear h_1 h_2 h_3 h_4 h_5 h_6 h_7 h_8 h_9 h_10 h_11 h_12 h_13 h_14 h_15 h_16 h_17 h_18 h_19 h_20 h_21 h_23 h_25 h_115 h_116 h_407 h_412 h_413 h_416 h_417 h_419 h_392; omega) | omega) (by first | (clear h_3 h_4 h_5 h_6 h_7 h_8 h_9 h_10 h_11 h_12 h_13 h_14 h_15 h_16 h_17 h_18 h_19 h_20 h_21 h_23 h_25 h_115 h_116 h_407 h_412 h_413 h_416 h_417 h_419 h_392; omega) | omega)).trans (rfl)) ((wv_tr hU (by first | (clear h_1 h_2 h_3 h_4 h_5 h_6 h_7 h_8 h_9 h_10 h_11 h_12 h_13 h_14 h_15 h_16 h_17 h_18 h_19 h_20 h_21 h_23 h_25 h_115 h_116 h_407 h_412 h_413 h_416 h_417 h_419 h_425 h_426 h_392; omega) | omega) (by first | (clear h_3 h_4 h_5 h_6 h_7 h_8 h_9 h_10 h_11 h_12 h_13 h_14 h_15 h_16 h_17 h_18 h_19 h_20 h_21 h_23 h_25 h_115 h_116 h_407 h_412 h_413 h_416 h_417 h_419 h_425 h_426 h_392; omega) | omega) (fun j h1 h2 => ⟨(ln_in (e := e1) (a := (nx F e1 a)) h1 h2).1, (ln_in (e := e1) (a := (nx F e1 a)) h1 h2).2.1⟩)).trans (rfl)) (fun c_427 hI_428 hF_429 hz_430 => ?_))
                  refine bk_inl ?_
                  refine q_istore_n rfl (by decide) ?_
                  refine q_iload_n rfl rfl ?_
                  refine q_call rfl rfl rfl rfl ?_
                  refine q_iload_n rfl rfl ?_
                  refine q_ldc_s rfl rfl rfl (by decide) ?_
                  refine q_call rfl rfl rfl rfl (s_158_16 ?_)
                  refine bk_inl ?_
                  refine v_ic_eq_t (t := 36) rfl (by decide) (by first | (clear h_1 h_2 h_3 h_4 h_5 h_6 h_7 h_8 h_9 h_10 h_11 h_12 h_13 h_14 h_15 h_16 h_17 h_18 h_19 h_20 h_21 h_23 h_24 h_25 h_96 h_115 h_116 h_407 h_412 h_413 h_416 h_417 h_419 h_26 h_392 h_418; omega) | omega) ?_
                  refine q_iconst rfl ?_
                  refine q_goto (t := 41) rfl (by decide) ?_
                  refine v_zret rfl rfl (by decide) ?_
                  refine bk_inl ?_
                  refine v_if_ne_t (t := 82) rfl (by decide) (by decide) ?_
                  refine q_iload_n rfl rfl ?_
                  refine v_bip rfl (by decide) ?_
                  refine v_ic_eq_f (t := 96) rfl (by decide) ⟨by first | (clear h_1 h_2 h_3 h_4 h_5 h_6 h_7 h_8 h_9 h_10 h_11 h_12 h_13 h_14 h_15 h_16 h_17 h_18 h_19 h_20 h_21 h_23 h_24 h_25 h_96 h_115 h_116 h_407 h_412 h_413 h_416 h_417 h_419 h_425 h_426 h_26 h_392 h_418; omega) | omega, ⟨(Int.le_trans (by decide) hv.1), (Int.le_trans hv.2 (by decide))⟩, by decide, by decide⟩ ?_
                  refine q_aload_n rfl rfl ?_
                  refine q_iload_n rfl rfl ?_
                  refine v_cv rfl rfl rfl rfl (by decide) ⟨⟨rfl, rfl⟩, by decide, rfl⟩ (Nat.le_of_ble_eq_true rfl) (Nat.le_of_ble_eq_true rfl) ?_
                  refine q_iload_n rfl rfl ?_
                  refine q_ldc_s rfl rfl rfl (by decide) ?_
                  refine q_call rfl rfl rfl rfl (s_158_16 ?_)
                  refine bk_inl ?_
                  refine v_ic_ne_f (t := 26) rfl (by decide) (by first | (clear h_1 h_2 h_3 h_4 h_5 h_6 h_7 h_8 h_9 h_10 h_11 h_12 h_13 h_14 h_15 h_16 h_17 h_18 h_19 h_20 h_21 h_23 h_24 h_25 h_96 h_115 h_116 h_407 h_412 h_413 h_416 h_417 h_419 h_26 h_392 h_418; omega) | omega) ?_
                  refine q_aload_n rfl rfl ?_
                  have kn_431 : Hid (c_420 41 16 = jr) := (hF_422 41 16 (fun h => absurd h.2 (ni rfl))).trans (hr_jr)
                  have kn_432 : Hid (c_427 41 16 = jr) := (hF_429 41 16 (fun h => absurd h.2 (ni rfl))).trans (hid kn_431)
                  refine v_gi (z := 16) (v := jr) rfl rfl rfl (by decide) rfl rfl (hid kn_432) ?_
                  refine v_bip rfl (by decide) ?_
                  refine v_ic_ne_t (t := 22) rfl (by decide) ⟨by first | (clear h_1 h_2 h_3 h_4 h_5 h_6 h_7 h_8 h_9 h_10 h_13 h_14 h_15 h_16 h_17 h_18 h_19 h_20 h_21 h_23 h_24 h_25 h_96 h_115 h_116 h_407 h_412 h_413 h_416 h_417 h_419 h_425 h_426 h_26 h_418; omega) | omega, ⟨(Int.le_trans (by decide) hjr.1), (Int.le_trans hjr.2 (by decide))⟩, by decide, by decide⟩ ?_
                  refine q_iconst rfl ?_
                  refine q_goto (t := 73) rfl (by decide) ?_
                  refine v_zret rfl rfl (by decide) ?_
                  refine bk_inl ?_
                  refine v_if_eq_t (t := 105) rfl (by decide) (by decide) ?_
                  refine q_aload_n rfl rfl ?_
                  refine v_cv rfl rfl rfl rfl (by decide) ⟨⟨rfl, rfl⟩, by decide, rfl⟩ (Nat.le_of_ble_eq_true rfl) (Nat.le_of_ble_eq_true rfl) ?_
                  refine q_aload_n rfl rfl ?_
                  have kn_433 : Hid (c_420 41 5 = (-1)) := (hF_422 41 5 (fun h => absurd h.2 (ni rfl))).trans (hc_1)
                  have kn_434 : Hid (c_427 41 5 = (-1)) := (hF_429 41 5 (fun h => absurd h.2 (ni rfl))).trans (hid kn_433)
                  refine v_gi (z := 5) (v := (-1)) rfl rfl rfl (by decide) rfl rfl (hid kn_434) ?_
                  refine q_iconst rfl ?_
                  refine v_ic_ne_f (t := 12) rfl (by decide) (by decide) ?_
                  refine q_iconst rfl ?_
                  refine q_goto (t := 13) rfl (by decide) ?_
                  refine v_zret rfl rfl (by decide) ?_
                  refine bk_inl ?_
                  refine v_if_ne_t (t := 115) rfl (by decide) (by decide) ?_
                  refine q_aload_n rfl rfl ?_
                  have kn_435 : Hid (c_427 41 3 = e1) := (hF_429 41 3 (fun h => absurd h.2 (ni rfl))).trans (hid kn_424)
                  refine v_cv rfl rfl rfl rfl (by decide) ⟨⟨rfl, rfl⟩, by decide, rfl⟩ (Nat.le_of_ble_eq_true rfl) (Nat.le_of_ble_eq_true rfl) (f_159 (e1 := e1) (a9 := (nx F e1 a)) (B := H) (L8 := (ln F e1 (nx F e1 a))) hI_428 ((hid kn_435)) ((hz_430)) (fun j => ((hF_429 43 j (fun h => absurd h.1 (nn rfl))).trans ((hF_422 43 j (fun h => absurd h.1 (nn rfl))).trans (hFc 43 j (fun q => q.elim (fun h => absurd h.1 (nn rfl)) (fun q => q.elim (fun h => absurd h.1 (nn rfl)) (fun q => q.elim (fun h => absurd h.1 (nn rfl)) (fun q => q.elim (fun h => absurd h.1 (nn rfl)) (fun q => q.elim (fun h => absurd h.1 (nn rfl)) (fun q => q.elim (fun h => absurd h.1 (nn rfl)) (fun q => q.elim (fun h => absurd h.1 (nn rfl)) (fun q => q.elim (fun h => absurd h (nn rfl)) (fun q => q.elim (fun h => absurd h (nn rfl)) (fun h => absurd h (nn rfl)))))))))))))).trans (hH j)) ((ln_tr hU (by first | (clear h_1 h_2 h_3 h_4 h_5 h_6 h_7 h_8 h_9 h_10 h_11 h_12 h_13 h_14 h_15 h_16 h_17 h_18 h_19 h_20 h_21 h_23 h_25 h_115 h_116 h_407 h_412 h_413 h_416 h_417 h_419 h_425 h_426 h_392; omega) | omega) (by first | (clear h_3 h_4 h_5 h_6 h_7 h_8 h_9 h_10 h_11 h_12 h_13 h_14 h_15 h_16 h_17 h_18 h_19 h_20 h_21 h_23 h_25 h_115 h_116 h_407 h_412 h_413 h_416 h_417 h_419 h_425 h_426 h_392; omega) | omega)).trans (rfl)) (fun c_436 hI_437 hF_438 hz_439 => ?_))
                  refine bk_inl ?_
                  refine q_aload_n rfl rfl ?_
                  refine q_iload_n rfl rfl ?_
                  have hw_440 : (wv F (nx F e1 a) (ln F e1 (nx F e1 a))) = 10290 := by omega
                  rw [hw_440]
                  have kn_441 : Hid (c_112 1 1 = e1) := (hF_114 1 1 (fun q => q.elim (fun h => absurd h.2 (ni rfl)) (fun q => q.elim (fun h => absurd h.2 (ni rfl)) (fun h => absurd h.2 (ni rfl))))).trans (hid kn_91)
                  have kn_442 : Hid (c_436 41 3 = e1) := (hF_438 41 3 (fun h => absurd h.2 (ni rfl))).trans (hid kn_435)
                  have kn_443 : Hid (c_436 41 16 = jr) := (hF_438 41 16 (fun h => absurd h.2 (ni rfl))).trans (hid kn_432)
                  have kn_444 : Hid (c_420 41 17 = st) := (hF_422 41 17 (fun h => absurd h.2 (ni rfl))).trans (hr_st)
                  have kn_445 : Hid (c_427 41 17 = st) := (hF_429 41 17 (fun h => absurd h.2 (ni rfl))).trans (hid kn_444)
                  have kn_446 : Hid (c_436 41 17 = st) := (hF_438 41 17 (fun h => absurd h.2 (ni rfl))).trans (hid kn_445)
                  have kn_447 : Hid (c_420 41 18 = si) := (hF_422 41 18 (fun h => absurd h.2 (ni rfl))).trans (hr_si)
                  have kn_448 : Hid (c_427 41 18 = si) := (hF_429 41 18 (fun h => absurd h.2 (ni rfl))).trans (hid kn_447)
                  have kn_449 : Hid (c_436 41 18 = si) := (hF_438 41 18 (fun h => absurd h.2 (ni rfl))).trans (hid kn_448)
                  have kn_450 : Hid (c_27 A 3 = du) := (hF_29 A 3 (fun h => absurd h.1 (np0 hA rfl))).trans (hg_du)
                  have kn_451 : Hid (c_87 A 3 = du) := (hF_89 A 3 (fun h => absurd h.1 (np0 hA rfl))).trans (hid kn_450)
                  have kn_452 : Hid (c_112 A 3 = du) := (hF_114 A 3 (fun q => q.elim (fun h => absurd h.1 (np0 hA rfl)) (fun q => q.elim (fun h => absurd h.1 (np0 hA rfl)) (fun h => absurd h.1 (np0 hA rfl))))).trans (hid kn_451)
                  have kn_453 : Hid (c_420 41 19 = du) := (hF_422 41 19 (fun h => absurd h.2 (ni rfl))).trans (hr_du)
                  have kn_454 : Hid (c_427 41 19 = du) := (hF_429 41 19 (fun h => absurd h.2 (ni rfl))).trans (hid kn_453)
                  have kn_455 : Hid (c_436 41 19 = du) := (hF_438 41 19 (fun h => absurd h.2 (ni rfl))).trans (hid kn_454)
                  have h_456 : c_112 1 4 = 0 := (hz_118)
                  have h_457 : c_112 1 2 = (ln F e1 (nx F e1 a)) := (hz_117)
                  have h_458 : c_112 1 5 = (-1) := (hz_119)
                  have kn_459 : Hid (c_436 41 5 = (-1)) := (hF_438 41 5 (fun h => absurd h.2 (ni rfl))).trans (hid kn_434)
                  have h_460 : c_436 41 5 = (-1) := (hid kn_459)
                  have h_461 : c_436 41 4 = (ln F e1 (nx F e1 a)) := (hz_439)
                  have h_462 := ir_41_6 hI2
                  have kn_463 : Hid (c_420 41 6 = c2 41 6) := hF_422 41 6 (fun h => absurd h.2 (ni rfl))
                  have kn_464 : Hid (c_427 41 6 = c2 41 6) := (hF_429 41 6 (fun h => absurd h.2 (ni rfl))).trans (hid kn_463)
                  have kn_465 : Hid (c_436 41 6 = c2 41 6) := (hF_438 41 6 (fun h => absurd h.2 (ni rfl))).trans (hid kn_464)
                  have h_466 : c_436 41 6 = c2 41 6 := (hid kn_465)
                  have hA_467 : Ae (4 * jr) (c_112 (A + 1)) (c_436 44) := ae_fr hrl0 (fun j => (hF_114 (A + 1) j (fun q => q.elim (fun h => absurd h.1 (np hA rfl rfl)) (fun q => q.elim (fun h => absurd h.1 (np hA rfl rfl)) (fun h => absurd h.1 (np hA rfl rfl))))).trans ((hF_89 (A + 1) j (fun h => absurd h.1 (np hA rfl rfl))).trans (hF_29 (A + 1) j (fun h => absurd h.1 (np hA rfl rfl))))) (fun j => (hF_438 44 j (fun h => absurd h.1 (nn rfl))).trans ((hF_429 44 j (fun h => absurd h.1 (nn rfl))).trans (hF_422 44 j (fun h => absurd h.1 (nn rfl)))))
                  have hA_468 : Ae (3 * st) (c_112 (A + 2)) (c_436 45) := ae_fr hrl1 (fun j => (hF_114 (A + 2) j (fun q => q.elim (fun h => absurd h.1 (np hA rfl rfl)) (fun q => q.elim (fun h => absurd h.1 (np hA rfl rfl)) (fun h => absurd h.1 (np hA rfl rfl))))).trans ((hF_89 (A + 2) j (fun h => absurd h.1 (np hA rfl rfl))).trans (hF_29 (A + 2) j (fun h => absurd h.1 (np hA rfl rfl))))) (fun j => (hF_438 45 j (fun h => absurd h.1 (nn rfl))).trans ((hF_429 45 j (fun h => absurd h.1 (nn rfl))).trans (hF_422 45 j (fun h => absurd h.1 (nn rfl)))))
                  have hA_469 : Ae si (c_112 (A + 3)) (c_436 46) := ae_fr hrl2 (fun j => (hF_114 (A + 3) j (fun q => q.elim (fun h => absurd h.1 (np hA rfl rfl)) (fun q => q.elim (fun h => absurd h.1 (np hA rfl rfl)) (fun h => absurd h.1 (np hA rfl rfl))))).trans ((hF_89 (A + 3) j (fun h => absurd h.1 (np hA rfl rfl))).trans (hF_29 (A + 3) j (fun h => absurd h.1 (np hA rfl rfl))))) (fun j => (hF_438 46 j (fun h => absurd h.1 (nn rfl))).trans ((hF_429 46 j (fun h => absurd h.1 (nn rfl))).trans (hF_422 46 j (fun h => absurd h.1 (nn rfl)))))
                  refine v_cv rfl rfl rfl rfl (by decide) ⟨⟨rfl, rfl⟩, by decide, rfl⟩ (Nat.le_of_ble_eq_true rfl) (Nat.le_of_ble_eq_true rfl) (L_33a_0 (m := c_112) (e1 := e1) (jr := jr) (st := st) (si := si) (du := du) (F := F) (H := H) hI_437 hI_113 hI_404 hA (by first | (clear h_1 h_2 h_3 h_4 h_5 h_6 h_7 h_8 h_9 h_10 h_13 h_14 h_15 h_16 h_17 h_18 h_19 h_20 h_21 h_23 h_24 h_25 h_96 h_115 h_116 h_407 h_412 h_413 h_416 h_417 h_419 h_425 h_426 h_26 h_418; omega) | omega) ((hid kn_441)) ((hid kn_442)) ((hid kn_391)) ((hid kn_443)) ((hid kn_397)) ((hid kn_446)) ((hid kn_401)) ((hid kn_449)) ((hid kn_452)) ((hid kn_455)) (fun j => ((hF_114 2 j (fun q => q.elim (fun h => absurd h.1 (nn rfl)) (fun q => q.elim (fun h => absurd h.1 (nn rfl)) (fun h => absurd h.1 (nn rfl))))).trans ((hF_89 2 j (fun h => absurd h.1 (nn rfl))).trans ((hF_29 2 j (fun h => absurd h.1 (nn rfl))).trans (hFm 2 j (fun q => q.elim (fun h => absurd h.1 (nn rfl)) (fun q => q.elim (fun h => absurd h.1 (nn rfl)) (fun q => q.elim (fun h => absurd h.1 (nn rfl)) (fun q => q.elim (fun h => absurd h.1 (pn0 hA rfl)) (fun q => q.elim (fun h => absurd h.1 (pn0 hA rfl)) (fun q => q.elim (fun h => absurd h.1 (pn0 hA rfl)) (fun q => q.elim (fun h => absurd h.1 (pn0 hA rfl)) (fun q => q.elim (fun h => absurd h (pn hA rfl rfl)) (fun q => q.elim (fun h => absurd h (pn hA rfl rfl)) (fun q => q.elim (fun h => absurd h (pn hA rfl rfl)) (fun q => q.elim (fun h => absurd h.1 (pn0 hA rfl)) (fun q => q.elim (fun h => absurd h.1 (pn0 hA rfl)) (fun q => q.elim (fun h => absurd h (pn hA rfl rfl)) (fun h => absurd h.1 (pn hA rfl rfl))))))))))))))))))).trans (hF j)) (fun j => ((hF_438 43 j (fun h => absurd h.1 (nn rfl))).trans ((hF_429 43 j (fun h => absurd h.1 (nn rfl))).trans ((hF_422 43 j (fun h => absurd h.1 (nn rfl))).trans (hFc 43 j (fun q => q.elim (fun h => absurd h.1 (nn rfl)) (fun q => q.elim (fun h => absurd h.1 (nn rfl)) (fun q => q.elim (fun h => absurd h.1 (nn rfl)) (fun q => q.elim (fun h => absurd h.1 (nn rfl)) (fun q => q.elim (fun h => absurd h.1 (nn rfl)) (fun q => q.elim (fun h => absurd h.1 (nn rfl)) (fun q => q.elim (fun h => absurd h.1 (nn rfl)) (fun q => q.elim (fun h => absurd h (nn rfl)) (fun q => q.elim (fun h => absurd h (nn rfl)) (fun h => absurd h (nn rfl))))))))))))))).trans (hH j)) hU (rt_i1 ⟨by first | (clear h_1 h_2 h_3 h_4 h_5 h_6 h_7 h_8 h_9 h_10 h_11 h_12 h_13 h_14 h_15 h_16 h_17 h_18 h_19 h_20 h_21 h_23 h_24 h_25 h_96 h_115 h_116 h_407 h_412 h_413 h_416 h_417 h_419 h_425 h_426 h_462 h_26 h_392 h_418; omega) | omega, by first | (clear h_1 h_2 h_3 h_4 h_5 h_6 h_7 h_8 h_9 h_10 h_11 h_12 h_13 h_14 h_15 h_16 h_17 h_18 h_19 h_20 h_21 h_23 h_24 h_25 h_96 h_115 h_116 h_407 h_412 h_413 h_416 h_417 h_419 h_425 h_426 h_462 h_26 h_392 h_418; omega) | omega, by first | (clear h_1 h_2 h_3 h_4 h_5 h_6 h_7 h_8 h_9 h_10 h_11 h_12 h_13 h_14 h_15 h_16 h_17 h_18 h_19 h_20 h_21 h_23 h_24 h_25 h_96 h_115 h_116 h_407 h_412 h_413 h_416 h_417 h_419 h_425 h_426 h_462 h_26 h_392 h_418; omega) | omega, by first | (clear h_1 h_2 h_3 h_4 h_5 h_6 h_7 h_8 h_9 h_10 h_11 h_12 h_13 h_14 h_15 h_16 h_17 h_18 h_19 h_20 h_21 h_23 h_24 h_25 h_96 h_115 h_116 h_407 h_412 h_413 h_416 h_417 h_419 h_425 h_426 h_462 h_26 h_392 h_418; omega) | omega⟩) (ae_le hA_467 (by omega)) (ae_le hA_468 (by omega)) (ae_le hA_469 (by omega)) hG_406 (fun c_470 hI_471 hF_472 hR_474 h_475 h_476 h_477 h_478 hA_479 hA_480 hA_481 => ?_))
                  refine bk_inl ?_
                  have h_482 := ir_41_16 hI_471
                  have h_483 := ir_p0_0 hI_404 hA
                  have h_484 := ir_41_17 hI_471
                  have h_485 := ir_p0_1 hI_404 hA
                  have h_486 := ir_41_18 hI_471
                  have h_487 := ir_p0_2 hI_404 hA
                  have h_488 := ir_41_19 hI_471
                  have h_489 := ir_p0_3 hI_404 hA
                  refine q_aload_n rfl rfl ?_
                  refine v_bip rfl (by decide) ?_
                  have kn_490 : Hid (c_403 1 1 = e1) := (hF_405 1 1 (fun q => q.elim (fun h => absurd h.2 (ni rfl)) (fun q => q.elim (fun h => absurd h.2 (ni rfl)) (fun q => q.elim (fun h => absurd h.2 (ni rfl)) (fun q => q.elim (fun h => absurd h.1 (pn0 hA rfl)) (fun q => q.elim (fun h => absurd h.1 (pn0 hA rfl)) (fun q => q.elim (fun h => absurd h.1 (pn0 hA rfl)) (fun q => q.elim (fun h => absurd h.1 (pn0 hA rfl)) (fun q => q.elim (fun h => absurd h (pn hA rfl rfl)) (fun q => q.elim (fun h => absurd h (pn hA rfl rfl)) (fun h => absurd h (pn hA rfl rfl)))))))))))).trans (hid kn_441)
                  have kn_491 : Hid (c_470 41 3 = e1) := (hF_472 41 3 (fun q => q.elim (fun h => absurd h.2 (ni rfl)) (fun q => q.elim (fun h => absurd h.2 (ni rfl)) (fun q => q.elim (fun h => absurd h.2 (ni rfl)) (fun q => q.elim (fun h => absurd h.2 (ni rfl)) (fun q => q.elim (fun h => absurd h.2 (ni rfl)) (fun q => q.elim (fun h => absurd h.2 (ni rfl)) (fun q => q.elim (fun h => absurd h.2 (ni rfl)) (fun q => q.elim (fun h => absurd h (nn rfl)) (fun q => q.elim (fun h => absurd h (nn rfl)) (fun h => absurd h (nn rfl)))))))))))).trans (hid kn_442)
                  have h_492 := ir_1_2 hI_404
                  refine v_cv rfl rfl rfl rfl (by decide) ⟨⟨rfl, rfl⟩, by decide, rfl⟩ (Nat.le_of_ble_eq_true rfl) (Nat.le_of_ble_eq_true rfl) (L_11_9 (m := c_403) (e1 := e1) (a9 := c_403 1 2) (f0 := c_403 1 4) (F := F) (H := H) hI_471 hI_404 hI_409 ((hid kn_490)) ((hid kn_491)) (rfl) (rfl) (fun j => ((hF_405 2 j (fun q => q.elim (fun h => absurd h.1 (nn rfl)) (fun q => q.elim (fun h => absurd h.1 (nn rfl)) (fun q => q.elim (fun h => absurd h.1 (nn rfl)) (fun q => q.elim (fun h => absurd h.1 (pn0 hA rfl)) (fun q => q.elim (fun h => absurd h.1 (pn0 hA rfl)) (fun q => q.elim (fun h => absurd h.1 (pn0 hA rfl)) (fun q => q.elim (fun h => absurd h.1 (pn0 hA rfl)) (fun q => q.elim (fun h => absurd h (pn hA rfl rfl)) (fun q => q.elim (fun h => absurd h (pn hA rfl rfl)) (fun h => absurd h (pn hA rfl rfl)))))))))))).trans ((hF_114 2 j (fun q => q.elim (fun h => absurd h.1 (nn rfl)) (fun q => q.elim (fun h => absurd h.1 (nn rfl)) (fun h => absurd h.1 (nn rfl))))).trans ((hF_89 2 j (fun h => absurd h.1 (nn rfl))).trans ((hF_29 2 j (fun h => absurd h.1 (nn rfl))).trans (hFm 2 j (fun q => q.elim (fun h => absurd h.1 (nn rfl)) (fun q => q.elim (fun h => absurd h.1 (nn rfl)) (fun q => q.elim (fun h => absurd h.1 (nn rfl)) (fun q => q.elim (fun h => absurd h.1 (pn0 hA rfl)) (fun q => q.elim (fun h => absurd h.1 (pn0 hA rfl)) (fun q => q.elim (fun h => absurd h.1 (pn0 hA rfl)) (fun q => q.elim (fun h => absurd h.1 (pn0 hA rfl)) (fun q => q.elim (fun h => absurd h (pn hA rfl rfl)) (fun q => q.elim (fun h => absurd h (pn hA rfl rfl)) (fun q => q.elim (fun h => absurd h (pn hA rfl rfl)) (fun q => q.elim (fun h => absurd h.1 (pn0 hA rfl)) (fun q => q.elim (fun h => absurd h.1 (pn0 hA rfl)) (fun q => q.elim (fun h => absurd h (pn hA rfl rfl)) (fun h => absurd h.1 (pn hA rfl rfl)))))))))))))))))))).trans (hF j)) (fun j => ((hF_472 43 j (fun q => q.elim (fun h => absurd h.1 (nn rfl)) (fun q => q.elim (fun h => absurd h.1 (nn rfl)) (fun q => q.elim (fun h => absurd h.1 (nn rfl)) (fun q => q.elim (fun h => absurd h.1 (nn rfl)) (fun q => q.elim (fun h => absurd h.1 (nn rfl)) (fun q => q.elim (fun h => absurd h.1 (nn rfl)) (fun q => q.elim (fun h => absurd h.1 (nn rfl)) (fun q => q.elim (fun h => absurd h (nn rfl)) (fun q => q.elim (fun h => absurd h (nn rfl)) (fun h => absurd h (nn rfl)))))))))))).trans ((hF_438 43 j (fun h => absurd h.1 (nn rfl))).trans ((hF_429 43 j (fun h => absurd h.1 (nn rfl))).trans ((hF_422 43 j (fun h => absurd h.1 (nn rfl))).trans (hFc 43 j (fun q => q.elim (fun h => absurd h.1 (nn rfl)) (fun q => q.elim (fun h => absurd h.1 (nn rfl)) (fun q => q.elim (fun h => absurd h.1 (nn rfl)) (fun q => q.elim (fun h => absurd h.1 (nn rfl)) (fun q => q.elim (fun h => absurd h.1 (nn rfl)) (fun q => q.elim (fun h => absurd h.1 (nn rfl)) (fun q => q.elim (fun h => absurd h.1 (nn rfl)) (fun q => q.elim (fun h => absurd h (nn rfl)) (fun q => q.elim (fun h => absurd h (nn rfl)) (fun h => absurd h (nn rfl)))))))))))))))).trans (hH j)) hU hR_474 hG_411 (fun c_493 hI_494 hF_495 hR_497 h_498 h_499 => ?_))
                  refine bk_inl ?_
                  have h_500 := ir_1_2 hI_409
                  refine v_iinc (v := v + 1) rfl rfl (by decide) rfl ?_
                  refine q_goto (t := 44) rfl (by decide) ?_
                  refine Wp_ls [(0, .ref 41), (1, vi a1), (2, vi (v + 1))] (lsub_cons rfl (lsub_cons rfl (lsub_cons rfl lsub_nil))) ?_
                  have h_501 := ir_41_4 hI_494
                  have h_502 := ir_1_5 hI_409
                  have h_503 := ir_41_5 hI_494
                  have h_504 := ir_41_6 hI_494
                  have h_505 := rt_ok hR_497 (by omega)
                  have hro_hR_497 := rt_ok hR_497 (by omega)
                  have kn_506 : Hid (c_408 A 0 = c_403 A 0) := hF_410 A 0 (fun q => q.elim (fun h => absurd h.1 (np0 hA rfl)) (fun q => q.elim (fun h => absurd h.1 (np0 hA rfl)) (fun h => absurd h.1 (np0 hA rfl))))
                  have kn_507 : Hid (c_493 41 16 = c_470 41 16) := hF_495 41 16 (fun q => q.elim (fun h => absurd h.2 (ni rfl)) (fun q => q.elim (fun h => absurd h.2 (ni rfl)) (fun h => absurd h.2 (ni rfl))))
                  have kn_508 : Hid (c_408 A 1 = c_403 A 1) := hF_410 A 1 (fun q => q.elim (fun h => absurd h.1 (np0 hA rfl)) (fun q => q.elim (fun h => absurd h.1 (np0 hA rfl)) (fun h => absurd h.1 (np0 hA rfl))))
                  have kn_509 : Hid (c_493 41 17 = c_470 41 17) := hF_495 41 17 (fun q => q.elim (fun h => absurd h.2 (ni rfl)) (fun q => q.elim (fun h => absurd h.2 (ni rfl)) (fun h => absurd h.2 (ni rfl))))
                  have kn_510 : Hid (c_408 A 2 = c_403 A 2) := hF_410 A 2 (fun q => q.elim (fun h => absurd h.1 (np0 hA rfl)) (fun q => q.elim (fun h => absurd h.1 (np0 hA rfl)) (fun h => absurd h.1 (np0 hA rfl))))
                  have kn_511 : Hid (c_493 41 18 = c_470 41 18) := hF_495 41 18 (fun q => q.elim (fun h => absurd h.2 (ni rfl)) (fun q => q.elim (fun h => absurd h.2 (ni rfl)) (fun h => absurd h.2 (ni rfl))))
                  have kn_512 : Hid (c_408 A 3 = c_403 A 3) := hF_410 A 3 (fun q => q.elim (fun h => absurd h.1 (np0 hA rfl)) (fun q => q.elim (fun h => absurd h.1 (np0 hA rfl)) (fun h => absurd h.1 (np0 hA rfl))))
                  have kn_513 : Hid (c_493 41 19 = c_470 41 19) := hF_495 41 19 (fun q => q.elim (fun h => absurd h.2 (ni rfl)) (fun q => q.elim (fun h => absurd h.2 (ni rfl)) (fun h => absurd h.2 (ni rfl))))
                  have hA_514 : Ae (4 * c_470 41 16) (c_408 (A + 1)) (c_493 44) := ae_fr hA_479 (fun j => hF_410 (A + 1) j (fun q => q.elim (fun h => absurd h.1 (np hA rfl rfl)) (fun q => q.elim (fun h => absurd h.1 (np hA rfl rfl)) (fun h => absurd h.1 (np hA rfl rfl))))) (fun j => hF_495 44 j (fun q => q.elim (fun h => absurd h.1 (nn rfl)) (fun q => q.elim (fun h => absurd h.1 (nn rfl)) (fun h => absurd h.1 (nn rfl)))))
                  have hA_515 : Ae (4 * c_403 A 0) (c_408 (A + 1)) (c_493 44) := ae_le hA_514 (by omega)
                  have hA_516 : Ae (3 * c_470 41 17) (c_408 (A + 2)) (c_493 45) := ae_fr hA_480 (fun j => hF_410 (A + 2) j (fun q => q.elim (fun h => absurd h.1 (np hA rfl rfl)) (fun q => q.elim (fun h => absurd h.1 (np hA rfl rfl)) (fun h => absurd h.1 (np hA rfl rfl))))) (fun j => hF_495 45 j (fun q => q.elim (fun h => absurd h.1 (nn rfl)) (fun q => q.elim (fun h => absurd h.1 (nn rfl)) (fun h => absurd h.1 (nn rfl)))))
                  have hA_517 : Ae (3 * c_403 A 1) (c_408 (A + 2)) (c_493 45) := ae_le hA_516 (by omega)
                  have hA_518 : Ae (c_470 41 18) (c_408 (A + 3)) (c_493 46) := ae_fr hA_481 (fun j => hF_410 (A + 3) j (fun q => q.elim (fun h => absurd h.1 (np hA rfl rfl)) (fun q => q.elim (fun h => absurd h.1 (np hA rfl rfl)) (fun h => absurd h.1 (np hA rfl rfl))))) (fun j => hF_495 46 j (fun q => q.elim (fun h => absurd h.1 (nn rfl)) (fun q => q.elim (fun h => absurd h.1 (nn rfl)) (fun h => absurd h.1 (nn rfl)))))
                  have hA_519 : Ae (c_403 A 2) (c_408 (A + 3)) (c_493 46) := ae_le hA_518 (by omega)
                  exact ih c_493 c_408 (v + 1) (c_408 1 2) (c_403 A 0) (c_403 A 1) (c_403 A 2) (c_403 A 3) hI_494 (fun a j hm => (hF_495 a j (fun q => q.elim (fun h => hm (Or.inl h)) (fun q => q.elim (fun h => hm (Or.inr (Or.inl h))) (fun h => hm (Or.inr (Or.inr (Or.inl h))))))).trans ((hF_472 a j (fun q => q.elim (fun h => hm (Or.inl h)) (fun q => q.elim (fun h => hm (Or.inr (Or.inl h))) (fun q => q.elim (fun h => hm (Or.inr (Or.inr (Or.inl h)))) (fun q => q.elim (fun h => hm (Or.inr (Or.inr (Or.inr (Or.inl h))))) (fun q => q.elim (fun h => hm (Or.inr (Or.inr (Or.inr (Or.inr (Or.inl h)))))) (fun q => q.elim (fun h => hm (Or.inr (Or.inr (Or.inr (Or.inr (Or.inr (Or.inl h))))))) (fun q => q.elim (fun h => hm (Or.inr (Or.inr (Or.inr (Or.inr (Or.inr (Or.inr (Or.inl h)))))))) (fun q => q.elim (fun h => hm (Or.inr (Or.inr (Or.inr (Or.inr (Or.inr (Or.inr (Or.inr (Or.inl h))))))))) (fun q => q.elim (fun h => hm (Or.inr (Or.inr (Or.inr (Or.inr (Or.inr (Or.inr (Or.inr (Or.inr (Or.inl h)))))))))) (fun h => hm (Or.inr (Or.inr (Or.inr (Or.inr (Or.inr (Or.inr (Or.inr (Or.inr (Or.inr h)))))))))))))))))))).trans ((hF_438 a j (fun h => hm (Or.inl h))).trans ((hF_429 a j (fun h => hm (Or.inl h))).trans ((hF_422 a j (fun h => hm (Or.inl h))).trans (hFc a j (fun q => q.elim (fun h => hm (Or.inl h)) (fun q => q.elim (fun h => hm (Or.inr (Or.inl h))) (fun q => q.elim (fun h => hm (Or.inr (Or.inr (Or.inl h)))) (fun q => q.elim (fun h => hm (Or.inr (Or.inr (Or.inr (Or.inl h))))) (fun q => q.elim (fun h => hm (Or.inr (Or.inr (Or.inr (Or.inr (Or.inl h)))))) (fun q => q.elim (fun h => hm (Or.inr (Or.inr (Or.inr (Or.inr (Or.inr (Or.inl h))))))) (fun q => q.elim (fun h => hm (Or.inr (Or.inr (Or.inr (Or.inr (Or.inr (Or.inr (Or.inl h)))))))) (fun q => q.elim (fun h => hm (Or.inr (Or.inr (Or.inr (Or.inr (Or.inr (Or.inr (Or.inr (Or.inl h))))))))) (fun q => q.elim (fun h => hm (Or.inr (Or.inr (Or.inr (Or.inr (Or.inr (Or.inr (Or.inr (Or.inr (Or.inl h)))))))))) (fun h => hm (Or.inr (Or.inr (Or.inr (Or.inr (Or.inr (Or.inr (Or.inr (Or.inr (Or.inr h))))))))))))))))))))))))) hI_409 (fun a j hm => (hF_410 a j (fun q => q.elim (fun h => hm (Or.inl h)) (fun q => q.elim (fun h => hm (Or.inr (Or.inl h))) (fun h => hm (Or.inr (Or.inr (Or.inl h))))))).trans ((hF_405 a j (fun q => q.elim (fun h => hm (Or.inl h)) (fun q => q.elim (fun h => hm (Or.inr (Or.inl h))) (fun q => q.elim (fun h => hm (Or.inr (Or.inr (Or.inl h)))) (fun q => q.elim (fun h => hm (Or.inr (Or.inr (Or.inr (Or.inl h))))) (fun q => q.elim (fun h => hm (Or.inr (Or.inr (Or.inr (Or.inr (Or.inl h)))))) (fun q => q.elim (fun h => hm (Or.inr (Or.inr (Or.inr (Or.inr (Or.inr (Or.inl h))))))) (fun q => q.elim (fun h => hm (Or.inr (Or.inr (Or.inr (Or.inr (Or.inr (Or.inr (Or.inl h)))))))) (fun q => q.elim (fun h => hm (Or.inr (Or.inr (Or.inr (Or.inr (Or.inr (Or.inr (Or.inr (Or.inl h))))))))) (fun q => q.elim (fun h => hm (Or.inr (Or.inr (Or.inr (Or.inr (Or.inr (Or.inr (Or.inr (Or.inr (Or.inl h)))))))))) (fun h => hm (Or.inr (Or.inr (Or.inr (Or.inr (Or.inr (Or.inr (Or.inr (Or.inr (Or.inr (Or.inl h))))))))))))))))))))).trans ((hF_114 a j (fun q => q.elim (fun h => hm (Or.inl h)) (fun q => q.elim (fun h => hm (Or.inr (Or.inl h))) (fun h => hm (Or.inr (Or.inr (Or.inl h))))))).trans ((hF_89 a j (fun h => hm (Or.inl h))).trans ((hF_29 a j (fun h => hm (Or.inl h))).trans (hFm a j (fun q => q.elim (fun h => hm (Or.inl h)) (fun q => q.elim (fun h => hm (Or.inr (Or.inl h))) (fun q => q.elim (fun h => hm (Or.inr (Or.inr (Or.inl h)))) (fun q => q.elim (fun h => hm (Or.inr (Or.inr (Or.inr (Or.inl h))))) (fun q => q.elim (fun h => hm (Or.inr (Or.inr (Or.inr (Or.inr (Or.inl h)))))) (fun q => q.elim (fun h => hm (Or.inr (Or.inr (Or.inr (Or.inr (Or.inr (Or.inl h))))))) (fun q => q.elim (fun h => hm (Or.inr (Or.inr (Or.inr (Or.inr (Or.inr (Or.inr (Or.inl h)))))))) (fun q => q.elim (fun h => hm (Or.inr (Or.inr (Or.inr (Or.inr (Or.inr (Or.inr (Or.inr (Or.inl h))))))))) (fun q => q.elim (fun h => hm (Or.inr (Or.inr (Or.inr (Or.inr (Or.inr (Or.inr (Or.inr (Or.inr (Or.inl h)))))))))) (fun q => q.elim (fun h => hm (Or.inr (Or.inr (Or.inr (Or.inr (Or.inr (Or.inr (Or.inr (Or.inr (Or.inr (Or.inl h))))))))))) (fun q => q.elim (fun h => hm (Or.inr (Or.inr (Or.inr (Or.inr (Or.inr (Or.inr (Or.inr (Or.inr (Or.inr (Or.inr (Or.inl h)))))))))))) (fun q => q.elim (fun h => hm (Or.inr (Or.inr (Or.inr (Or.inr (Or.inr (Or.inr (Or.inr (Or.inr (Or.inr (Or.inr (Or.inr (Or.inl h))))))))))))) (fun q => q.elim (fun h => hm (Or.inr (Or.inr (Or.inr (Or.inr (Or.inr (Or.inr (Or.inr (Or.inr (Or.inr (Or.inr (Or.inr (Or.inr (Or.inl h)))))))))))))) (fun h => hm (Or.inr (Or.inr (Or.inr (Or.inr (Or.inr (Or.inr (Or.inr (Or.inr (Or.inr (Or.inr (Or.inr (Or.inr (Or.inr h))))))))))))))))))))))))))))))))) ⟨by omega, by omega⟩ ⟨by omega, by omega⟩ ⟨by omega, by omega⟩ ⟨by omega, by omega⟩ ⟨by omega, by omega⟩ ⟨by omega, by omega⟩ (rfl) (hro_hR_497.2.2.1) ((hid kn_506)) ((show _ = c_470 41 16 from (hid kn_507)).trans (by omega)) ((hid kn_508)) ((show _ = c_470 41 17 from (hid kn_509)).trans (by omega)) ((hid kn_510)) ((show _ = c_470 41 18 from (hid kn_511)).trans (by omega)) ((hid kn_512)) ((show _ = c_470 41 19 from (hid kn_513)).trans (by omega)) ((show _ = c_408 1 4 from rfl).trans (by omega)) (hro_hR_497.2.1) ((show _ = c_408 1 5 from rfl).trans (by omega)) (ae_le hA_515 (by omega)) (ae_le hA_517 (by omega)) (ae_le hA_519 (by omega)) hG_414 (by omega)
                · skip
                  refine q_iload_n rfl rfl ?_
                  refine v_bip rfl (by decide) ?_
                  refine v_ic_gt_f (t := 85) rfl (by decide) ⟨by first | exact rgp_l hv.1 (by decide) | omega, by first | (clear h_1 h_2 h_3 h_4 h_5 h_6 h_7 h_8 h_9 h_10 h_11 h_12 h_13 h_14 h_15 h_16 h_17 h_18 h_19 h_20 h_21 h_23 h_24 h_25 h_96 h_115 h_116 h_407 h_412 h_26 h_392; omega) | omega, by decide⟩ ?_
                  refine q_aload_n rfl rfl ?_
                  refine v_cv rfl rfl rfl rfl (by decide) ⟨⟨rfl, rfl⟩, by decide, rfl⟩ (Nat.le_of_ble_eq_true rfl) (Nat.le_of_ble_eq_true rfl) ?_
                  refine q_aload_n rfl rfl ?_
                  refine v_cv rfl rfl rfl rfl (by decide) ⟨⟨rfl, rfl⟩, by decide, rfl⟩ (Nat.le_of_ble_eq_true rfl) (Nat.le_of_ble_eq_true rfl) ?_
                  refine q_aload_n rfl rfl ?_
                  refine v_gi (z := 4) (v := c_408 1 4) rfl rfl rfl (by decide) rfl rfl rfl ?_
                  refine v_if_ne_t (t := 11) rfl (by decide) ⟨by first | (clear h_1 h_2 h_3 h_4 h_5 h_6 h_7 h_8 h_9 h_10 h_11 h_12 h_13 h_14 h_15 h_16 h_17 h_18 h_19 h_20 h_21 h_23 h_24 h_25 h_96 h_115 h_116 h_407 h_412 h_26 h_392; omega) | omega, ⟨(Int.le_trans (by decide) h_412.1), (Int.le_trans h_412.2 (by decide))⟩, by decide, by decide⟩ ?_
                  refine q_iconst rfl ?_
                  refine v_zret rfl rfl (by decide) ?_
                  refine bk_inl ?_
                  refine v_if_eq_t (t := 22) rfl (by decide) (by decide) ?_
                  refine q_iconst rfl ?_
                  refine v_zret rfl rfl (by decide) ?_
                  refine bk_inl ?_
                  refine v_if_eq_t (t := 85) rfl (by decide) (by decide) ?_
                  refine q_vret rfl rfl ?_
                  intro hE_520
                  have hW : Wd P Q P P c_408 = Wd P Q P P m9 := (Prod.mk.inj (Prod.mk.inj hE_520).2).1
                  have h_521 := ir_1_4 hJ9
                  have h_522 : m9 1 4 = c_408 1 4 := wd_fv (z := 4) 4 rfl hW rfl rfl rfl rfl (by decide) rfl ⟨(Int.le_trans (by decide) h_412.1), (Int.le_trans h_412.2 (by decide))⟩ ⟨(Int.le_trans (by decide) h_521.1), (Int.le_trans h_521.2 (by decide))⟩
                  have h_523 := ir_1_2 hI_409
                  have h_524 := ir_1_2 hJ9
                  have h_525 : m9 1 2 = c_408 1 2 := wd_fv (z := 2) 2 rfl hW rfl rfl rfl rfl (by decide) rfl ⟨(Int.le_trans (by decide) h_523.1), (Int.le_trans h_523.2 (by decide))⟩ ⟨(Int.le_trans (by decide) h_524.1), (Int.le_trans h_524.2 (by decide))⟩
                  have h_526 := ir_1_5 hI_409
                  have h_527 := ir_1_5 hJ9
                  have h_528 : m9 1 5 = c_408 1 5 := wd_fv (z := 5) 5 rfl hW rfl rfl rfl rfl (by decide) rfl ⟨(Int.le_trans (by decide) h_526.1), (Int.le_trans h_526.2 (by decide))⟩ ⟨(Int.le_trans (by decide) h_527.1), (Int.le_trans h_527.2 (by decide))⟩
                  have h_529 := ir_p0_0 hI_404 hA
                  have kn_530 : Hid (c_408 A 0 = c_403 A 0) := hF_410 A 0 (fun q => q.elim (fun h => absurd h.1 (np0 hA rfl)) (fun q => q.elim (fun h => absurd h.1 (np0 hA rfl)) (fun h => absurd h.1 (np0 hA rfl))))
                  have h_531 := ir_p0_0 hJ9 hA
                  have h_532 : m9 A 0 = c_403 A 0 := wd_fv (z := 0) 0 rfl hW (ck_p0 hA) (ck_p0 hA) rfl rfl (by omega) (hid kn_530) ⟨by first | (clear h_1 h_2 h_3 h_4 h_5 h_6 h_7 h_8 h_9 h_10 h_11 h_12 h_13 h_14 h_15 h_16 h_17 h_18 h_19 h_20 h_21 h_23 h_24 h_25 h_96 h_115 h_116 h_407 h_412 h_521 h_522 h_523 h_524 h_525 h_526 h_527 h_528 h_531 h_26 h_392; omega) | omega, by first | (clear h_1 h_2 h_3 h_4 h_5 h_6 h_7 h_8 h_9 h_10 h_11 h_12 h_13 h_14 h_15 h_16 h_17 h_18 h_19 h_20 h_21 h_23 h_24 h_25 h_96 h_115 h_116 h_407 h_412 h_521 h_522 h_523 h_524 h_525 h_526 h_527 h_528 h_531 h_26 h_392; omega) | omega⟩ ⟨(Int.le_trans (by decide) h_531.1), (Int.le_trans h_531.2 (by decide))⟩
                  have h_533 := ir_p0_1 hI_404 hA
                  have kn_534 : Hid (c_408 A 1 = c_403 A 1) := hF_410 A 1 (fun q => q.elim (fun h => absurd h.1 (np0 hA rfl)) (fun q => q.elim (fun h => absurd h.1 (np0 hA rfl)) (fun h => absurd h.1 (np0 hA rfl))))
                  have h_535 := ir_p0_1 hJ9 hA
                  have h_536 : m9 A 1 = c_403 A 1 := wd_fv (z := 1) 1 rfl hW (ck_p0 hA) (ck_p0 hA) rfl rfl (by omega) (hid kn_534) ⟨by first | (clear h_1 h_2 h_3 h_4 h_5 h_6 h_7 h_8 h_9 h_10 h_11 h_12 h_13 h_14 h_15 h_16 h_17 h_18 h_19 h_20 h_21 h_23 h_24 h_25 h_96 h_115 h_116 h_407 h_412 h_521 h_522 h_523 h_524 h_525 h_526 h_527 h_528 h_529 h_531 h_532 h_535 h_26 h_392; omega) | omega, by first | (clear h_1 h_2 h_3 h_4 h_5 h_6 h_7 h_8 h_9 h_10 h_11 h_12 h_13 h_14 h_15 h_16 h_17 h_18 h_19 h_20 h_21 h_23 h_24 h_25 h_96 h_115 h_116 h_407 h_412 h_521 h_522 h_523 h_524 h_525 h_526 h_527 h_528 h_529 h_531 h_532 h_535 h_26 h_392; omega) | omega⟩ ⟨(Int.le_trans (by decide) h_535.1), (Int.le_trans h_535.2 (by decide))⟩
                  have h_537 := ir_p0_2 hI_404 hA
                  have kn_538 : Hid (c_408 A 2 = c_403 A 2) := hF_410 A 2 (fun q => q.elim (fun h => absurd h.1 (np0 hA rfl)) (fun q => q.elim (fun h => absurd h.1 (np0 hA rfl)) (fun h => absurd h.1 (np0 hA rfl))))
                  have h_539 := ir_p0_2 hJ9 hA
                  have h_540 : m9 A 2 = c_403 A 2 := wd_fv (z := 2) 2 rfl hW (ck_p0 hA) (ck_p0 hA) rfl rfl (by omega) (hid kn_538) ⟨by first | (clear h_1 h_2 h_3 h_4 h_5 h_6 h_7 h_8 h_9 h_10 h_11 h_12 h_13 h_14 h_15 h_16 h_17 h_18 h_19 h_20 h_21 h_23 h_24 h_25 h_96 h_115 h_116 h_407 h_412 h_521 h_522 h_523 h_524 h_525 h_526 h_527 h_528 h_529 h_531 h_532 h_533 h_535 h_536 h_539 h_26 h_392; omega) | omega, by first | (clear h_1 h_2 h_3 h_4 h_5 h_6 h_7 h_8 h_9 h_10 h_11 h_12 h_13 h_14 h_15 h_16 h_17 h_18 h_19 h_20 h_21 h_23 h_24 h_25 h_96 h_115 h_116 h_407 h_412 h_521 h_522 h_523 h_524 h_525 h_526 h_527 h_528 h_529 h_531 h_532 h_533 h_535 h_536 h_539 h_26 h_392; omega) | omega⟩ ⟨(Int.le_trans (by decide) h_539.1), (Int.le_trans h_539.2 (by decide))⟩
                  have h_541 := ir_p0_3 hI_404 hA
                  have kn_542 : Hid (c_408 A 3 = c_403 A 3) := hF_410 A 3 (fun q => q.elim (fun h => absurd h.1 (np0 hA rfl)) (fun q => q.elim (fun h => absurd h.1 (np0 hA rfl)) (fun h => absurd h.1 (np0 hA rfl))))
                  have h_543 := ir_p0_3 hJ9 hA
                  have h_544 : m9 A 3 = c_403 A 3 := wd_fv (z := 3) 3 rfl hW (ck_p0 hA) (ck_p0 hA) rfl rfl (by omega) (hid kn_542) ⟨by first | (clear h_1 h_2 h_3 h_4 h_5 h_6 h_7 h_8 h_9 h_10 h_11 h_12 h_13 h_14 h_15 h_16 h_17 h_18 h_19 h_20 h_21 h_23 h_24 h_25 h_96 h_115 h_116 h_407 h_412 h_521 h_522 h_523 h_524 h_525 h_526 h_527 h_528 h_529 h_531 h_532 h_533 h_535 h_536 h_537 h_539 h_540 h_543 h_26 h_392; omega) | omega, by first | (clear h_1 h_2 h_3 h_4 h_5 h_6 h_7 h_8 h_9 h_10 h_11 h_12 h_13 h_14 h_15 h_16 h_17 h_18 h_19 h_20 h_21 h_23 h_24 h_25 h_96 h_115 h_116 h_407 h_412 h_521 h_522 h_523 h_524 h_525 h_526 h_527 h_528 h_529 h_531 h_532 h_533 h_535 h_536 h_537 h_539 h_540 h_543 h_26 h_392; omega) | omega⟩ ⟨(Int.le_trans (by decide) h_543.1), (Int.le_trans h_543.2 (by decide))⟩
                  refine q_aload_n rfl rfl ?_
                  refine v_cv rfl rfl rfl rfl (by decide) ⟨⟨rfl, rfl⟩, by decide, rfl⟩ (Nat.le_of_ble_eq_true rfl) (Nat.le_of_ble_eq_true rfl) ?_
                  refine q_aload_n rfl rfl ?_
                  refine v_gi (z := 5) (v := (-1)) rfl rfl rfl (by decide) rfl rfl (hc_1) ?_
                  refine q_iconst rfl ?_
                  refine v_ic_ne_f (t := 12) rfl (by decide) (by decide) ?_
                  refine q_iconst rfl ?_
                  refine q_goto (t := 13) rfl (by decide) ?_
                  refine v_zret rfl rfl (by decide) ?_
                  refine bk_inl ?_
                  refine v_if_eq_f (t := 136) rfl (by decide) (by decide) ?_
                  refine q_aload_n rfl rfl ?_
                  refine v_cv rfl rfl rfl rfl (by decide) ⟨⟨rfl, rfl⟩, by decide, rfl⟩ (Nat.le_of_ble_eq_true rfl) (Nat.le_of_ble_eq_true rfl) ?_
                  refine q_aload_n rfl rfl ?_
                  have kn_545 : Hid (c2 41 3 = e1) := (hFc 41 3 (fun q => q.elim (fun h => absurd h.2 (ni rfl)) (fun q => q.elim (fun h => absurd h.2 (ni rfl)) (fun q => q.elim (fun h => absurd h.2 (ni rfl)) (fun q => q.elim (fun h => absurd h.2 (ni rfl)) (fun q => q.elim (fun h => absurd h.2 (ni rfl)) (fun q => q.elim (fun h => absurd h.2 (ni rfl)) (fun q => q.elim (fun h => absurd h.2 (ni rfl)) (fun q => q.elim (fun h => absurd h (nn rfl)) (fun q => q.elim (fun h => absurd h (nn rfl)) (fun h => absurd h (nn rfl)))))))))))).trans (hr_e1)
                  have h_546 : -2147483648 ≤ (H (nx F e1 a)) ∧ (H (nx F e1 a)) ≤ 2147483647 := by rw [← hH (nx F e1 a)]; exact ir_43 hI (nx F e1 a)
                  have h_547 := hU (nx F e1 a) (by omega) (by omega)
                  have h_548 := hb_or (b := H) (e := e1) (r := (nx F e1 a))
                  have h_549 := hb_bd (b := H) (e := e1) (r := (nx F e1 a)) (lo := -2147483648) (hi := 2147483647) ⟨by omega, by omega⟩ (by decide)
                  refine v_cv rfl rfl rfl rfl (by decide) ⟨⟨rfl, rfl⟩, by decide, rfl⟩ (Nat.le_of_ble_eq_true rfl) (Nat.le_of_ble_eq_true rfl) (f_154 (e1 := e1) (a9 := a) (B := H) (r8 := (nx F e1 a)) (r := (hb H e1 (nx F e1 a))) hI2 ((hid kn_545)) ((hr_a)) (fun j => (hFc 43 j (fun q => q.elim (fun h => absurd h.1 (nn rfl)) (fun q => q.elim (fun h => absurd h.1 (nn rfl)) (fun q => q.elim (fun h => absurd h.1 (nn rfl)) (fun q => q.elim (fun h => absurd h.1 (nn rfl)) (fun q => q.elim (fun h => absurd h.1 (nn rfl)) (fun q => q.elim (fun h => absurd h.1 (nn rfl)) (fun q => q.elim (fun h => absurd h.1 (nn rfl)) (fun q => q.elim (fun h => absurd h (nn rfl)) (fun q => q.elim (fun h => absurd h (nn rfl)) (fun h => absurd h (nn rfl)))))))))))).trans (hH j)) ((nx_tr hU (by first | (clear h_1 h_2 h_3 h_4 h_5 h_6 h_7 h_8 h_9 h_10 h_11 h_12 h_13 h_14 h_15 h_16 h_17 h_18 h_19 h_20 h_21 h_23 h_24 h_25 h_96 h_115 h_116 h_407 h_412 h_521 h_522 h_523 h_524 h_525 h_526 h_527 h_528 h_529 h_531 h_532 h_533 h_535 h_536 h_537 h_539 h_540 h_541 h_543 h_544 h_26 h_392; omega) | omega) (by first | (clear h_3 h_4 h_5 h_6 h_7 h_8 h_9 h_10 h_11 h_12 h_13 h_14 h_15 h_16 h_17 h_18 h_19 h_20 h_21 h_23 h_25 h_115 h_116 h_407 h_412 h_521 h_522 h_523 h_524 h_525 h_526 h_527 h_528 h_529 h_531 h_532 h_533 h_535 h_536 h_537 h_539 h_540 h_541 h_543 h_544 h_392; omega) | omega)).trans (rfl)) rfl (fun c_550 hI_551 hF_552 h_553 => ?_))
                  refine bk_inl ?_
                  refine q_pop rfl rfl ?_
                  refine q_aload_n rfl rfl ?_
                  refine v_gi (z := 4) (v := (nx F e1 a)) rfl rfl rfl (by decide) rfl rfl (h_553) ?_
                  refine q_aload_n rfl rfl ?_
                  have kn_554 : Hid (c_550 41 3 = e1) := (hF_552 41 3 (fun h => absurd h.2 (ni rfl))).trans (hid kn_545)
                  refine v_gi (z := 3) (v := e1) rfl rfl rfl (by decide) rfl rfl (hid kn_554) ?_
                  refine v_ic_ge_f (t := 20) rfl (by decide) ⟨by first | (clear h_1 h_2 h_3 h_4 h_5 h_6 h_7 h_8 h_9 h_10 h_11 h_12 h_13 h_14 h_15 h_16 h_17 h_18 h_19 h_20 h_21 h_23 h_25 h_115 h_116 h_407 h_412 h_521 h_522 h_523 h_524 h_525 h_526 h_527 h_528 h_529 h_531 h_532 h_533 h_535 h_536 h_537 h_539 h_540 h_541 h_543 h_544 h_546 h_547 h_549 h_392; omega) | omega, by first | (clear h_1 h_2 h_3 h_4 h_5 h_6 h_7 h_8 h_9 h_10 h_11 h_12 h_13 h_14 h_15 h_16 h_17 h_18 h_19 h_20 h_21 h_23 h_24 h_25 h_96 h_115 h_116 h_407 h_412 h_521 h_522 h_523 h_524 h_525 h_526 h_527 h_528 h_529 h_531 h_532 h_533 h_535 h_536 h_537 h_539 h_540 h_541 h_543 h_544 h_546 h_547 h_549 h_26 h_392 h_548; omega) | omega, (Int.le_trans (rg_eq hg_e1 h_1).2 (by decide))⟩ ?_
                  refine q_iconst rfl ?_
                  refine q_goto (t := 21) rfl (by decide) ?_
                  refine v_zret rfl rfl (by decide) ?_
                  refine bk_inl ?_
                  refine v_if_eq_f (t := 136) rfl (by decide) (by decide) ?_
                  refine q_aload_n rfl rfl ?_
                  have h_555 := wv_bd (b := F) (r := (nx F e1 a)) (l := (ln F e1 (nx F e1 a))) (fun j h1 h2 => ⟨(ln_in (e := e1) (a := (nx F e1 a)) h1 h2).1, (ln_in (e := e1) (a := (nx F e1 a)) h1 h2).2.1⟩)
                  have h_556 := wr8_0 (b := F) (r := (nx F e1 a)) (l := (ln F e1 (nx F e1 a))) (by omega) (fun j h1 h2 => ⟨(ln_in (e := e1) (a := (nx F e1 a)) h1 h2).1, (ln_in (e := e1) (a := (nx F e1 a)) h1 h2).2.1⟩) (by omega)
                  refine v_cv rfl rfl rfl rfl (by decide) ⟨⟨rfl, rfl⟩, by decide, rfl⟩ (Nat.le_of_ble_eq_true rfl) (Nat.le_of_ble_eq_true rfl) (f_157 (e1 := e1) (a9 := (nx F e1 a)) (B := H) (r8 := (nx F e1 a)) (L8 := (ln F e1 (nx F e1 a))) (W8 := (wv F (nx F e1 a) (ln F e1 (nx F e1 a)))) hI_551 ((hid kn_554)) ((h_553)) (fun j => ((hF_552 43 j (fun h => absurd h.1 (nn rfl))).trans (hFc 43 j (fun q => q.elim (fun h => absurd h.1 (nn rfl)) (fun q => q.elim (fun h => absurd h.1 (nn rfl)) (fun q => q.elim (fun h => absurd h.1 (nn rfl)) (fun q => q.elim (fun h => absurd h.1 (nn rfl)) (fun q => q.elim (fun h => absurd h.1 (nn rfl)) (fun q => q.elim (fun h => absurd h.1 (nn rfl)) (fun q => q.elim (fun h => absurd h.1 (nn rfl)) (fun q => q.elim (fun h => absurd h (nn rfl)) (fun q => q.elim (fun h => absurd h (nn rfl)) (fun h => absurd h (nn rfl))))))))))))).trans (hH j)) ((nx_tr hU (by first | (clear h_1 h_2 h_3 h_4 h_5 h_6 h_7 h_8 h_9 h_10 h_11 h_12 h_13 h_14 h_15 h_16 h_17 h_18 h_19 h_20 h_21 h_23 h_25 h_115 h_116 h_407 h_412 h_521 h_522 h_523 h_524 h_525 h_526 h_527 h_528 h_529 h_531 h_532 h_533 h_535 h_536 h_537 h_539 h_540 h_541 h_543 h_544 h_546 h_547 h_549 h_392; omega) | omega) (by first | (clear h_3 h_4 h_5 h_6 h_7 h_8 h_9 h_10 h_11 h_12 h_13 h_14 h_15 h_16 h_17 h_18 h_19 h_20 h_21 h_23 h_25 h_115 h_116 h_407 h_412 h_521 h_522 h_523 h_524 h_525 h_526 h_527 h_528 h_529 h_531 h_532 h_533 h_535 h_536 h_537 h_539 h_540 h_541 h_543 h_544 h_546 h_547 h_549 h_392; omega) | omega)).trans ((nx_z (by omega)))) ((ln_tr hU (by first | (clear h_1 h_2 h_3 h_4 h_5 h_6 h_7 h_8 h_9 h_10 h_11 h_12 h_13 h_14 h_15 h_16 h_17 h_18 h_19 h_20 h_21 h_23 h_25 h_115 h_116 h_407 h_412 h_521 h_522 h_523 h_524 h_525 h_526 h_527 h_528 h_529 h_531 h_532 h_533 h_535 h_536 h_537 h_539 h_540 h_541 h_543 h_544 h_546 h_547 h_549 h_392; omega) | omega) (by first | (clear h_3 h_4 h_5 h_6 h_7 h_8 h_9 h_10 h_11 h_12 h_13 h_14 h_15 h_16 h_17 h_18 h_19 h_20 h_21 h_23 h_25 h_115 h_116 h_407 h_412 h_521 h_522 h_523 h_524 h_525 h_526 h_527 h_528 h_529 h_531 h_532 h_533 h_535 h_536 h_537 h_539 h_540 h_541 h_543 h_544 h_546 h_547 h_549 h_392; omega) | omega)).trans (rfl)) ((wv_tr hU (by first | (clear h_1 h_2 h_3 h_4 h_5 h_6 h_7 h_8 h_9 h_10 h_11 h_12 h_13 h_14 h_15 h_16 h_17 h_18 h_19 h_20 h_21 h_23 h_25 h_115 h_116 h_407 h_412 h_521 h_522 h_523 h_524 h_525 h_526 h_527 h_528 h_529 h_531 h_532 h_533 h_535 h_536 h_537 h_539 h_540 h_541 h_543 h_544 h_546 h_547 h_549 h_555 h_556 h_392; omega) | omega) (by first | (clear h_3 h_4 h_5 h_6 h_7 h_8 h_9 h_10 h_11 h_12 h_13 h_14 h_15 h_16 h_17 h_18 h_19 h_20 h_21 h_23 h_25 h_115 h_116 h_407 h_412 h_521 h_522 h_523 h_524 h_525 h_526 h_527 h_528 h_529 h_531 h_532 h_533 h_535 h_536 h_537 h_539 h_540 h_541 h_543 h_544 h_546 h_547 h_549 h_555 h_556 h_392; omega) | omega) (fun j h1 h2 => ⟨(ln_in (e := e1) (a := (nx F e1 a)) h1 h2).1, (ln_in (e := e1) (a := (nx F e1 a)) h1 h2).2.1⟩)).trans (rfl)) (fun c_557 hI_558 hF_559 hz_560 => ?_))
                  refine bk_inl ?_
                  refine q_istore_n rfl (by decide) ?_
                  refine q_iload_n rfl rfl ?_
                  refine q_call rfl rfl rfl rfl ?_
                  refine q_iload_n rfl rfl ?_
                  refine q_ldc_s rfl rfl rfl (by decide) ?_
                  refine q_call rfl rfl rfl rfl (s_158_16 ?_)
                  refine bk_inl ?_
                  refine v_ic_eq_t (t := 36) rfl (by decide) (by first | (clear h_1 h_2 h_3 h_4 h_5 h_6 h_7 h_8 h_9 h_10 h_11 h_12 h_13 h_14 h_15 h_16 h_17 h_18 h_19 h_20 h_21 h_23 h_24 h_25 h_96 h_115 h_116 h_407 h_412 h_521 h_522 h_523 h_524 h_525 h_526 h_527 h_528 h_529 h_531 h_532 h_533 h_535 h_536 h_537 h_539 h_540 h_541 h_543 h_544 h_546 h_547 h_549 h_26 h_392 h_548; omega) | omega) ?_
                  refine q_iconst rfl ?_
                  refine q_goto (t := 41) rfl (by decide) ?_
                  refine v_zret rfl rfl (by decide) ?_
                  refine bk_inl ?_
                  refine v_if_ne_t (t := 82) rfl (by decide) (by decide) ?_
                  refine q_iload_n rfl rfl ?_
                  refine v_bip rfl (by decide) ?_
                  refine v_ic_eq_f (t := 96) rfl (by decide) ⟨by first | (clear h_1 h_2 h_3 h_4 h_5 h_6 h_7 h_8 h_9 h_10 h_11 h_12 h_13 h_14 h_15 h_16 h_17 h_18 h_19 h_20 h_21 h_23 h_24 h_25 h_96 h_115 h_116 h_407 h_412 h_521 h_522 h_523 h_524 h_525 h_526 h_527 h_528 h_529 h_531 h_532 h_533 h_535 h_536 h_537 h_539 h_540 h_541 h_543 h_544 h_546 h_547 h_549 h_555 h_556 h_26 h_392 h_548; omega) | omega, ⟨(Int.le_trans (by decide) hv.1), (Int.le_trans hv.2 (by decide))⟩, by decide, by decide⟩ ?_
                  refine q_aload_n rfl rfl ?_
                  refine q_iload_n rfl rfl ?_
                  refine v_cv rfl rfl rfl rfl (by decide) ⟨⟨rfl, rfl⟩, by decide, rfl⟩ (Nat.le_of_ble_eq_true rfl) (Nat.le_of_ble_eq_true rfl) ?_
                  refine q_iload_n rfl rfl ?_
                  refine q_ldc_s rfl rfl rfl (by decide) ?_
                  refine q_call rfl rfl rfl rfl (s_158_16 ?_)
                  refine bk_inl ?_
                  refine v_ic_ne_f (t := 26) rfl (by decide) (by first | (clear h_1 h_2 h_3 h_4 h_5 h_6 h_7 h_8 h_9 h_10 h_11 h_12 h_13 h_14 h_15 h_16 h_17 h_18 h_19 h_20 h_21 h_23 h_24 h_25 h_96 h_115 h_116 h_407 h_412 h_521 h_522 h_523 h_524 h_525 h_526 h_527 h_528 h_529 h_531 h_532 h_533 h_535 h_536 h_537 h_539 h_540 h_541 h_543 h_544 h_546 h_547 h_549 h_26 h_392 h_548; omega) | omega) ?_
                  refine q_aload_n rfl rfl ?_
                  have kn_561 : Hid (c_550 41 16 = jr) := (hF_552 41 16 (fun h => absurd h.2 (ni rfl))).trans (hr_jr)
                  have kn_562 : Hid (c_557 41 16 = jr) := (hF_559 41 16 (fun h => absurd h.2 (ni rfl))).trans (hid kn_561)
                  refine v_gi (z := 16) (v := jr) rfl rfl rfl (by decide) rfl rfl (hid kn_562) ?_
                  refine v_bip rfl (by decide) ?_
                  refine v_ic_ne_t (t := 22) rfl (by decide) ⟨by first | (clear h_1 h_2 h_3 h_4 h_5 h_6 h_7 h_8 h_9 h_10 h_13 h_14 h_15 h_16 h_17 h_18 h_19 h_20 h_21 h_23 h_24 h_25 h_96 h_115 h_116 h_407 h_412 h_521 h_522 h_523 h_524 h_525 h_526 h_527 h_528 h_529 h_531 h_532 h_533 h_535 h_536 h_537 h_539 h_540 h_541 h_543 h_544 h_546 h_547 h_549 h_555 h_556 h_26 h_548; omega) | omega, ⟨(Int.le_trans (by decide) hjr.1), (Int.le_trans hjr.2 (by decide))⟩, by decide, by decide⟩ ?_
                  refine q_iconst rfl ?_
                  refine q_goto (t := 73) rfl (by decide) ?_
                  refine v_zret rfl rfl (by decide) ?_
                  refine bk_inl ?_
                  refine v_if_eq_t (t := 105) rfl (by decide) (by decide) ?_
                  refine q_aload_n rfl rfl ?_
                  refine v_cv rfl rfl rfl rfl (by decide) ⟨⟨rfl, rfl⟩, by decide, rfl⟩ (Nat.le_of_ble_eq_true rfl) (Nat.le_of_ble_eq_true rfl) ?_
                  refine q_aload_n rfl rfl ?_
                  have kn_563 : Hid (c_550 41 5 = (-1)) := (hF_552 41 5 (fun h => absurd h.2 (ni rfl))).trans (hc_1)
                  have kn_564 : Hid (c_557 41 5 = (-1)) := (hF_559 41 5 (fun h => absurd h.2 (ni rfl))).trans (hid kn_563)
                  refine v_gi (z := 5) (v := (-1)) rfl rfl rfl (by decide) rfl rfl (hid kn_564) ?_
                  refine q_iconst rfl ?_
                  refine v_ic_ne_f (t := 12) rfl (by decide) (by decide) ?_
                  refine q_iconst rfl ?_
                  refine q_goto (t := 13) rfl (by decide) ?_
                  refine v_zret rfl rfl (by decide) ?_
                  refine bk_inl ?_
                  refine v_if_ne_t (t := 115) rfl (by decide) (by decide) ?_
                  refine q_aload_n rfl rfl ?_
                  have kn_565 : Hid (c_557 41 3 = e1) := (hF_559 41 3 (fun h => absurd h.2 (ni rfl))).trans (hid kn_554)
                  refine v_cv rfl rfl rfl rfl (by decide) ⟨⟨rfl, rfl⟩, by decide, rfl⟩ (Nat.le_of_ble_eq_true rfl) (Nat.le_of_ble_eq_true rfl) (f_159 (e1 := e1) (a9 := (nx F e1 a)) (B := H) (L8 := (ln F e1 (nx F e1 a))) hI_558 ((hid kn_565)) ((hz_560)) (fun j => ((hF_559 43 j (fun h => absurd h.1 (nn rfl))).trans ((hF_552 43 j (fun h => absurd h.1 (nn rfl))).trans (hFc 43 j (fun q => q.elim (fun h => absurd h.1 (nn rfl)) (fun q => q.elim (fun h => absurd h.1 (nn rfl)) (fun q => q.elim (fun h => absurd h.1 (nn rfl)) (fun q => q.elim (fun h => absurd h.1 (nn rfl)) (fun q => q.elim (fun h => absurd h.1 (nn rfl)) (fun q => q.elim (fun h => absurd h.1 (nn rfl)) (fun q => q.elim (fun h => absurd h.1 (nn rfl)) (fun q => q.elim (fun h => absurd h (nn rfl)) (fun q => q.elim (fun h => absurd h (nn rfl)) (fun h => absurd h (nn rfl)))))))))))))).trans (hH j)) ((ln_tr hU (by first | (clear h_1 h_2 h_3 h_4 h_5 h_6 h_7 h_8 h_9 h_10 h_11 h_12 h_13 h_14 h_15 h_16 h_17 h_18 h_19 h_20 h_21 h_23 h_25 h_115 h_116 h_407 h_412 h_521 h_522 h_523 h_524 h_525 h_526 h_527 h_528 h_529 h_531 h_532 h_533 h_535 h_536 h_537 h_539 h_540 h_541 h_543 h_544 h_546 h_547 h_549 h_555 h_556 h_392; omega) | omega) (by first | (clear h_3 h_4 h_5 h_6 h_7 h_8 h_9 h_10 h_11 h_12 h_13 h_14 h_15 h_16 h_17 h_18 h_19 h_20 h_21 h_23 h_25 h_115 h_116 h_407 h_412 h_521 h_522 h_523 h_524 h_525 h_526 h_527 h_528 h_529 h_531 h_532 h_533 h_535 h_536 h_537 h_539 h_540 h_541 h_543 h_544 h_546 h_547 h_549 h_555 h_556 h_392; omega) | omega)).trans (rfl)) (fun c_566 hI_567 hF_568 hz_569 => ?_))
                  refine bk_inl ?_
                  refine q_aload_n rfl rfl ?_
                  refine q_iload_n rfl rfl ?_
                  have hw_570 : (wv F (nx F e1 a) (ln F e1 (nx F e1 a))) = 10290 := by omega
                  rw [hw_570]
                  have kn_571 : Hid (c_112 1 1 = e1) := (hF_114 1 1 (fun q => q.elim (fun h => absurd h.2 (ni rfl)) (fun q => q.elim (fun h => absurd h.2 (ni rfl)) (fun h => absurd h.2 (ni rfl))))).trans (hid kn_91)
                  have kn_572 : Hid (c_566 41 3 = e1) := (hF_568 41 3 (fun h => absurd h.2 (ni rfl))).trans (hid kn_565)
                  have kn_573 : Hid (c_566 41 16 = jr) := (hF_568 41 16 (fun h => absurd h.2 (ni rfl))).trans (hid kn_562)
                  have kn_574 : Hid (c_550 41 17 = st) := (hF_552 41 17 (fun h => absurd h.2 (ni rfl))).trans (hr_st)
                  have kn_575 : Hid (c_557 41 17 = st) := (hF_559 41 17 (fun h => absurd h.2 (ni rfl))).trans (hid kn_574)
                  have kn_576 : Hid (c_566 41 17 = st) := (hF_568 41 17 (fun h => absurd h.2 (ni rfl))).trans (hid kn_575)
                  have kn_577 : Hid (c_550 41 18 = si) := (hF_552 41 18 (fun h => absurd h.2 (ni rfl))).trans (hr_si)
                  have kn_578 : Hid (c_557 41 18 = si) := (hF_559 41 18 (fun h => absurd h.2 (ni rfl))).trans (hid kn_577)
                  have kn_579 : Hid (c_566 41 18 = si) := (hF_568 41 18 (fun h => absurd h.2 (ni rfl))).trans (hid kn_578)
                  have kn_580 : Hid (c_27 A 3 = du) := (hF_29 A 3 (fun h => absurd h.1 (np0 hA rfl))).trans (hg_du)
                  have kn_581 : Hid (c_87 A 3 = du) := (hF_89 A 3 (fun h => absurd h.1 (np0 hA rfl))).trans (hid kn_580)
                  have kn_582 : Hid (c_112 A 3 = du) := (hF_114 A 3 (fun q => q.elim (fun h => absurd h.1 (np0 hA rfl)) (fun q => q.elim (fun h => absurd h.1 (np0 hA rfl)) (fun h => absurd h.1 (np0 hA rfl))))).trans (hid kn_581)
                  have kn_583 : Hid (c_550 41 19 = du) := (hF_552 41 19 (fun h => absurd h.2 (ni rfl))).trans (hr_du)
                  have kn_584 : Hid (c_557 41 19 = du) := (hF_559 41 19 (fun h => absurd h.2 (ni rfl))).trans (hid kn_583)
                  have kn_585 : Hid (c_566 41 19 = du) := (hF_568 41 19 (fun h => absurd h.2 (ni rfl))).trans (hid kn_584)
                  have h_586 : c_112 1 4 = 0 := (hz_118)
                  have h_587 : c_112 1 2 = (ln F e1 (nx F e1 a)) := (hz_117)
                  have h_588 : c_112 1 5 = (-1) := (hz_119)
                  have kn_589 : Hid (c_566 41 5 = (-1)) := (hF_568 41 5 (fun h => absurd h.2 (ni rfl))).trans (hid kn_564)
                  have h_590 : c_566 41 5 = (-1) := (hid kn_589)
                  have h_591 : c_566 41 4 = (ln F e1 (nx F e1 a)) := (hz_569)
                  have h_592 := ir_41_6 hI2
                  have kn_593 : Hid (c_550 41 6 = c2 41 6) := hF_552 41 6 (fun h => absurd h.2 (ni rfl))
                  have kn_594 : Hid (c_557 41 6 = c2 41 6) := (hF_559 41 6 (fun h => absurd h.2 (ni rfl))).trans (hid kn_593)
                  have kn_595 : Hid (c_566 41 6 = c2 41 6) := (hF_568 41 6 (fun h => absurd h.2 (ni rfl))).trans (hid kn_594)
                  have h_596 : c_566 41 6 = c2 41 6 := (hid kn_595)
                  have hA_597 : Ae (4 * jr) (c_112 (A + 1)) (c_566 44) := ae_fr hrl0 (fun j => (hF_114 (A + 1) j (fun q => q.elim (fun h => absurd h.1 (np hA rfl rfl)) (fun q => q.elim (fun h => absurd h.1 (np hA rfl rfl)) (fun h => absurd h.1 (np hA rfl rfl))))).trans ((hF_89 (A + 1) j (fun h => absurd h.1 (np hA rfl rfl))).trans (hF_29 (A + 1) j (fun h => absurd h.1 (np hA rfl rfl))))) (fun j => (hF_568 44 j (fun h => absurd h.1 (nn rfl))).trans ((hF_559 44 j (fun h => absurd h.1 (nn rfl))).trans (hF_552 44 j (fun h => absurd h.1 (nn rfl)))))
                  have hA_598 : Ae (3 * st) (c_112 (A + 2)) (c_566 45) := ae_fr hrl1 (fun j => (hF_114 (A + 2) j (fun q => q.elim (fun h => absurd h.1 (np hA rfl rfl)) (fun q => q.elim (fun h => absurd h.1 (np hA rfl rfl)) (fun h => absurd h.1 (np hA rfl rfl))))).trans ((hF_89 (A + 2) j (fun h => absurd h.1 (np hA rfl rfl))).trans (hF_29 (A + 2) j (fun h => absurd h.1 (np hA rfl rfl))))) (fun j => (hF_568 45 j (fun h => absurd h.1 (nn rfl))).trans ((hF_559 45 j (fun h => absurd h.1 (nn rfl))).trans (hF_552 45 j (fun h => absurd h.1 (nn rfl)))))
                  have hA_599 : Ae si (c_112 (A + 3)) (c_566 46) := ae_fr hrl2 (fun j => (hF_114 (A + 3) j (fun q => q.elim (fun h => absurd h.1 (np hA rfl rfl)) (fun q => q.elim (fun h => absurd h.1 (np hA rfl rfl)) (fun h => absurd h.1 (np hA rfl rfl))))).trans ((hF_89 (A + 3) j (fun h => absurd h.1 (np hA rfl rfl))).trans (hF_29 (A + 3) j (fun h => absurd h.1 (np hA rfl rfl))))) (fun j => (hF_568 46 j (fun h => absurd h.1 (nn rfl))).trans ((hF_559 46 j (fun h => absurd h.1 (nn rfl))).trans (hF_552 46 j (fun h => absurd h.1 (nn rfl)))))
                  refine v_cv rfl rfl rfl rfl (by decide) ⟨⟨rfl, rfl⟩, by decide, rfl⟩ (Nat.le_of_ble_eq_true rfl) (Nat.le_of_ble_eq_true rfl) (L_33a_0 (m := c_112) (e1 := e1) (jr := jr) (st := st) (si := si) (du := du) (F := F) (H := H) hI_567 hI_113 hI_404 hA (by first | (clear h_1 h_2 h_3 h_4 h_5 h_6 h_7 h_8 h_9 h_10 h_13 h_14 h_15 h_16 h_17 h_18 h_19 h_20 h_21 h_23 h_24 h_25 h_96 h_115 h_116 h_407 h_412 h_521 h_522 h_523 h_524 h_525 h_526 h_527 h_528 h_529 h_531 h_532 h_533 h_535 h_536 h_537 h_539 h_540 h_541 h_543 h_544 h_546 h_547 h_549 h_555 h_556 h_26 h_548; omega) | omega) ((hid kn_571)) ((hid kn_572)) ((hid kn_391)) ((hid kn_573)) ((hid kn_397)) ((hid kn_576)) ((hid kn_401)) ((hid kn_579)) ((hid kn_582)) ((hid kn_585)) (fun j => ((hF_114 2 j (fun q => q.elim (fun h => absurd h.1 (nn rfl)) (fun q => q.elim (fun h => absurd h.1 (nn rfl)) (fun h => absurd h.1 (nn rfl))))).trans ((hF_89 2 j (fun h => absurd h.1 (nn rfl))).trans ((hF_29 2 j (fun h => absurd h.1 (nn rfl))).trans (hFm 2 j (fun q => q.elim (fun h => absurd h.1 (nn rfl)) (fun q => q.elim (fun h => absurd h.1 (nn rfl)) (fun q => q.elim (fun h => absurd h.1 (nn rfl)) (fun q => q.elim (fun h => absurd h.1 (pn0 hA rfl)) (fun q => q.elim (fun h => absurd h.1 (pn0 hA rfl)) (fun q => q.elim (fun h => absurd h.1 (pn0 hA rfl)) (fun q => q.elim (fun h => absurd h.1 (pn0 hA rfl)) (fun q => q.elim (fun h => absurd h (pn hA rfl rfl)) (fun q => q.elim (fun h => absurd h (pn hA rfl rfl)) (fun q => q.elim (fun h => absurd h (pn hA rfl rfl)) (fun q => q.elim (fun h => absurd h.1 (pn0 hA rfl)) (fun q => q.elim (fun h => absurd h.1 (pn0 hA rfl)) (fun q => q.elim (fun h => absurd h (pn hA rfl rfl)) (fun h => absurd h.1 (pn hA rfl rfl))))))))))))))))))).trans (hF j)) (fun j => ((hF_568 43 j (fun h => absurd h.1 (nn rfl))).trans ((hF_559 43 j (fun h => absurd h.1 (nn rfl))).trans ((hF_552 43 j (fun h => absurd h.1 (nn rfl))).trans (hFc 43 j (fun q => q.elim (fun h => absurd h.1 (nn rfl)) (fun q => q.elim (fun h => absurd h.1 (nn rfl)) (fun q => q.elim (fun h => absurd h.1 (nn rfl)) (fun q => q.elim (fun h => absurd h.1 (nn rfl)) (fun q => q.elim (fun h => absurd h.1 (nn rfl)) (fun q => q.elim (fun h => absurd h.1 (nn rfl)) (fun q => q.elim (fun h => absurd h.1 (nn rfl)) (fun q => q.elim (fun h => absurd h (nn rfl)) (fun q => q.elim (fun h => absurd h (nn rfl)) (fun h => absurd h (nn rfl))))))))))))))).trans (hH j)) hU (rt_i1 ⟨by first | (clear h_1 h_2 h_3 h_4 h_5 h_6 h_7 h_8 h_9 h_10 h_11 h_12 h_13 h_14 h_15 h_16 h_17 h_18 h_19 h_20 h_21 h_23 h_24 h_25 h_96 h_115 h_116 h_407 h_412 h_521 h_522 h_523 h_524 h_525 h_526 h_527 h_528 h_529 h_531 h_532 h_533 h_535 h_536 h_537 h_539 h_540 h_541 h_543 h_544 h_546 h_547 h_549 h_555 h_556 h_592 h_26 h_392 h_548; omega) | omega, by first | (clear h_1 h_2 h_3 h_4 h_5 h_6 h_7 h_8 h_9 h_10 h_11 h_12 h_13 h_14 h_15 h_16 h_17 h_18 h_19 h_20 h_21 h_23 h_24 h_25 h_96 h_115 h_116 h_407 h_412 h_521 h_522 h_523 h_524 h_525 h_526 h_527 h_528 h_529 h_531 h_532 h_533 h_535 h_536 h_537 h_539 h_540 h_541 h_543 h_544 h_546 h_547 h_549 h_555 h_556 h_592 h_26 h_392 h_548; omega) | omega, by first | (clear h_1 h_2 h_3 h_4 h_5 h_6 h_7 h_8 h_9 h_10 h_11 h_12 h_13 h_14 h_15 h_16 h_17 h_18 h_19 h_20 h_21 h_23 h_24 h_25 h_96 h_115 h_116 h_407 h_412 h_521 h_522 h_523 h_524 h_525 h_526 h_527 h_528 h_529 h_531 h_532 h_533 h_535 h_536 h_537 h_539 h_540 h_541 h_543 h_544 h_546 h_547 h_549 h_555 h_556 h_592 h_26 h_392 h_548; omega) | omega, by first | (clear h_1 h_2 h_3 h_4 h_5 h_6 h_7 h_8 h_9 h_10 h_11 h_12 h_13 h_14 h_15 h_16 h_17 h_18 h_19 h_20 h_21 h_23 h_24 h_25 h_96 h_115 h_116 h_407 h_412 h_521 h_522 h_523 h_524 h_525 h_526 h_527 h_528 h_529 h_531 h_532 h_533 h_535 h_536 h_537 h_539 h_540 h_541 h_543 h_544 h_546 h_547 h_549 h_555 h_556 h_592 h_26 h_392 h_548; omega) | omega⟩) (ae_le hA_597 (by omega)) (ae_le hA_598 (by omega)) (ae_le hA_599 (by omega)) hG_406 (fun c_600 hI_601 hF_602 hR_604 h_605 h_606 h_607 h_608 hA_609 hA_610 hA_611 => ?_))
                  refine bk_inl ?_
                  have h_612 := ir_41_16 hI_601
                  have h_613 := ir_41_17 hI_601
                  have h_614 := ir_41_18 hI_601
                  have h_615 := ir_41_19 hI_601
                  refine q_aload_n rfl rfl ?_
                  refine v_bip rfl (by decide) ?_
                  have kn_616 : Hid (c_403 1 1 = e1) := (hF_405 1 1 (fun q => q.elim (fun h => absurd h.2 (ni rfl)) (fun q => q.elim (fun h => absurd h.2 (ni rfl)) (fun q => q.elim (fun h => absurd h.2 (ni rfl)) (fun q => q.elim (fun h => absurd h.1 (pn0 hA rfl)) (fun q => q.elim (fun h => absurd h.1 (pn0 hA rfl)) (fun q => q.elim (fun h => absurd h.1 (pn0 hA rfl)) (fun q => q.elim (fun h => absurd h.1 (pn0 hA rfl)) (fun q => q.elim (fun h => absurd h (pn hA rfl rfl)) (fun q => q.elim (fun h => absurd h (pn hA rfl rfl)) (fun h => absurd h (pn hA rfl rfl)))))))))))).trans (hid kn_571)
                  have kn_617 : Hid (c_600 41 3 = e1) := (hF_602 41 3 (fun q => q.elim (fun h => absurd h.2 (ni rfl)) (fun q => q.elim (fun h => absurd h.2 (ni rfl)) (fun q => q.elim (fun h => absurd h.2 (ni rfl)) (fun q => q.elim (fun h => absurd h.2 (ni rfl)) (fun q => q.elim (fun h => absurd h.2 (ni rfl)) (fun q => q.elim (fun h => absurd h.2 (ni rfl)) (fun q => q.elim (fun h => absurd h.2 (ni rfl)) (fun q => q.elim (fun h => absurd h (nn rfl)) (fun q => q.elim (fun h => absurd h (nn rfl)) (fun h => absurd h (nn rfl)))))))))))).trans (hid kn_572)
                  have h_618 := ir_1_2 hI_404
                  refine v_cv rfl rfl rfl rfl (by decide) ⟨⟨rfl, rfl⟩, by decide, rfl⟩ (Nat.le_of_ble_eq_true rfl) (Nat.le_of_ble_eq_true rfl) (L_11_9 (m := c_403) (e1 := e1) (a9 := c_403 1 2) (f0 := c_403 1 4) (F := F) (H := H) hI_601 hI_404 hI_409 ((hid kn_616)) ((hid kn_617)) (rfl) (rfl) (fun j => ((hF_405 2 j (fun q => q.elim (fun h => absurd h.1 (nn rfl)) (fun q => q.elim (fun h => absurd h.1 (nn rfl)) (fun q => q.elim (fun h => absurd h.1 (nn rfl)) (fun q => q.elim (fun h => absurd h.1 (pn0 hA rfl)) (fun q => q.elim (fun h => absurd h.1 (pn0 hA rfl)) (fun q => q.elim (fun h => absurd h.1 (pn0 hA rfl)) (fun q => q.elim (fun h => absurd h.1 (pn0 hA rfl)) (fun q => q.elim (fun h => absurd h (pn hA rfl rfl)) (fun q => q.elim (fun h => absurd h (pn hA rfl rfl)) (fun h => absurd h (pn hA rfl rfl)))))))))))).trans ((hF_114 2 j (fun q => q.elim (fun h => absurd h.1 (nn rfl)) (fun q => q.elim (fun h => absurd h.1 (nn rfl)) (fun h => absurd h.1 (nn rfl))))).trans ((hF_89 2 j (fun h => absurd h.1 (nn rfl))).trans ((hF_29 2 j (fun h => absurd h.1 (nn rfl))).trans (hFm 2 j (fun q => q.elim (fun h => absurd h.1 (nn rfl)) (fun q => q.elim (fun h => absurd h.1 (nn rfl)) (fun q => q.elim (fun h => absurd h.1 (nn rfl)) (fun q => q.elim (fun h => absurd h.1 (pn0 hA rfl)) (fun q => q.elim (fun h => absurd h.1 (pn0 hA rfl)) (fun q => q.elim (fun h => absurd h.1 (pn0 hA rfl)) (fun q => q.elim (fun h => absurd h.1 (pn0 hA rfl)) (fun q => q.elim (fun h => absurd h (pn hA rfl rfl)) (fun q => q.elim (fun h => absurd h (pn hA rfl rfl)) (fun q => q.elim (fun h => absurd h (pn hA rfl rfl)) (fun q => q.elim (fun h => absurd h.1 (pn0 hA rfl)) (fun q => q.elim (fun h => absurd h.1 (pn0 hA rfl)) (fun q => q.elim (fun h => absurd h (pn hA rfl rfl)) (fun h => absurd h.1 (pn hA rfl rfl)))))))))))))))))))).trans (hF j)) (fun j => ((hF_602 43 j (fun q => q.elim (fun h => absurd h.1 (nn rfl)) (fun q => q.elim (fun h => absurd h.1 (nn rfl)) (fun q => q.elim (fun h => absurd h.1 (nn rfl)) (fun q => q.elim (fun h => absurd h.1 (nn rfl)) (fun q => q.elim (fun h => absurd h.1 (nn rfl)) (fun q => q.elim (fun h => absurd h.1 (nn rfl)) (fun q => q.elim (fun h => absurd h.1 (nn rfl)) (fun q => q.elim (fun h => absurd h (nn rfl)) (fun q => q.elim (fun h => absurd h (nn rfl)) (fun h => absurd h (nn rfl)))))))))))).trans ((hF_568 43 j (fun h => absurd h.1 (nn rfl))).trans ((hF_559 43 j (fun h => absurd h.1 (nn rfl))).trans ((hF_552 43 j (fun h => absurd h.1 (nn rfl))).trans (hFc 43 j (fun q => q.elim (fun h => absurd h.1 (nn rfl)) (fun q => q.elim (fun h => absurd h.1 (nn rfl)) (fun q => q.elim (fun h => absurd h.1 (nn rfl)) (fun q => q.elim (fun h => absurd h.1 (nn rfl)) (fun q => q.elim (fun h => absurd h.1 (nn rfl)) (fun q => q.elim (fun h => absurd h.1 (nn rfl)) (fun q => q.elim (fun h => absurd h.1 (nn rfl)) (fun q => q.elim (fun h => absurd h (nn rfl)) (fun q => q.elim (fun h => absurd h (nn rfl)) (fun h => absurd h (nn rfl)))))))))))))))).trans (hH j)) hU hR_604 hG_411 (fun c_619 hI_620 hF_621 hR_623 h_624 h_625 => ?_))
                  refine bk_inl ?_
                  refine v_iinc (v := v + 1) rfl rfl (by decide) rfl ?_
                  refine q_goto (t := 44) rfl (by decide) ?_
                  refine q_aload_n rfl rfl ?_
                  refine v_cv rfl rfl rfl rfl (by decide) ⟨⟨rfl, rfl⟩, by decide, rfl⟩ (Nat.le_of_ble_eq_true rfl) (Nat.le_of_ble_eq_true rfl) ?_
                  refine q_aload_n rfl rfl ?_
                  have h_626 := ir_41_5 hI_620
                  have h_627 := ir_41_4 hI_620
                  have h_628 := ir_41_6 hI_620
                  have h_629 := rt_bad hR_623 (by omega)
                  have hrb_hR_623 := rt_bad hR_623 (by omega)
                  refine v_gi (z := 5) (v := c_408 1 5) rfl rfl rfl (by decide) rfl rfl hrb_hR_623.2.1 ?_
                  refine q_iconst rfl ?_
                  refine v_ic_ne_t (t := 12) rfl (by decide) ⟨by first | (clear h_1 h_2 h_3 h_4 h_5 h_6 h_7 h_8 h_9 h_10 h_11 h_12 h_13 h_14 h_15 h_16 h_17 h_18 h_19 h_20 h_21 h_23 h_24 h_25 h_96 h_115 h_116 h_407 h_412 h_521 h_522 h_523 h_524 h_525 h_527 h_529 h_531 h_532 h_533 h_535 h_536 h_537 h_539 h_540 h_541 h_543 h_544 h_546 h_547 h_549 h_555 h_556 h_592 h_612 h_605 h_613 h_606 h_614 h_607 h_615 h_608 h_618 h_626 h_627 h_628 h_26 h_392 h_548 h_624 h_625; omega) | omega, ⟨(Int.le_trans (by decide) h_526.1), (Int.le_trans h_526.2 (by decide))⟩, by decide, by decide⟩ ?_
                  refine q_iconst rfl ?_
                  refine v_zret rfl rfl (by decide) ?_
                  refine bk_inl ?_
                  refine v_if_eq_t (t := 136) rfl (by decide) (by decide) ?_
                  refine Wp_ls [(0, .ref 41), (1, vi a1)] (lsub_cons rfl (lsub_cons rfl lsub_nil)) ?_
                  have h_630 : c_619 41 5 = c_408 1 5 := hrb_hR_623.2.1
                  have h_631 : c_619 41 6 = c_408 1 4 := hrb_hR_623.2.2.2
                  have kn_632 : Hid (c_619 41 16 = c_600 41 16) := hF_621 41 16 (fun q => q.elim (fun h => absurd h.2 (ni rfl)) (fun q => q.elim (fun h => absurd h.2 (ni rfl)) (fun h => absurd h.2 (ni rfl))))
                  have h_633 : c_619 41 16 = c_600 41 16 := (hid kn_632)
                  have kn_634 : Hid (c_619 41 17 = c_600 41 17) := hF_621 41 17 (fun q => q.elim (fun h => absurd h.2 (ni rfl)) (fun q => q.elim (fun h => absurd h.2 (ni rfl)) (fun h => absurd h.2 (ni rfl))))
                  have h_635 : c_619 41 17 = c_600 41 17 := (hid kn_634)
                  have kn_636 : Hid (c_619 41 18 = c_600 41 18) := hF_621 41 18 (fun q => q.elim (fun h => absurd h.2 (ni rfl)) (fun q => q.elim (fun h => absurd h.2 (ni rfl)) (fun h => absurd h.2 (ni rfl))))
                  have h_637 : c_619 41 18 = c_600 41 18 := (hid kn_636)
                  have kn_638 : Hid (c_619 41 19 = c_600 41 19) := hF_621 41 19 (fun q => q.elim (fun h => absurd h.2 (ni rfl)) (fun q => q.elim (fun h => absurd h.2 (ni rfl)) (fun h => absurd h.2 (ni rfl))))
                  have h_639 : c_619 41 19 = c_600 41 19 := (hid kn_638)
                  have h_640 : c_619 41 16 = c_600 41 16 := (hid kn_632)
                  have h_641 : c_619 41 17 = c_600 41 17 := (hid kn_634)
                  have h_642 : c_619 41 18 = c_600 41 18 := (hid kn_636)
                  exact K c_619  hI_620 (fun a j hm => (hF_621 a j (fun q => q.elim (fun h => hm (Or.inl h)) (fun q => q.elim (fun h => hm (Or.inr (Or.inl h))) (fun h => hm (Or.inr (Or.inr (Or.inl h))))))).trans ((hF_602 a j (fun q => q.elim (fun h => hm (Or.inl h)) (fun q => q.elim (fun h => hm (Or.inr (Or.inl h))) (fun q => q.elim (fun h => hm (Or.inr (Or.inr (Or.inl h)))) (fun q => q.elim (fun h => hm (Or.inr (Or.inr (Or.inr (Or.inl h))))) (fun q => q.elim (fun h => hm (Or.inr (Or.inr (Or.inr (Or.inr (Or.inl h)))))) (fun q => q.elim (fun h => hm (Or.inr (Or.inr (Or.inr (Or.inr (Or.inr (Or.inl h))))))) (fun q => q.elim (fun h => hm (Or.inr (Or.inr (Or.inr (Or.inr (Or.inr (Or.inr (Or.inl h)))))))) (fun q => q.elim (fun h => hm (Or.inr (Or.inr (Or.inr (Or.inr (Or.inr (Or.inr (Or.inr (Or.inl h))))))))) (fun q => q.elim (fun h => hm (Or.inr (Or.inr (Or.inr (Or.inr (Or.inr (Or.inr (Or.inr (Or.inr (Or.inl h)))))))))) (fun h => hm (Or.inr (Or.inr (Or.inr (Or.inr (Or.inr (Or.inr (Or.inr (Or.inr (Or.inr h)))))))))))))))))))).trans ((hF_568 a j (fun h => hm (Or.inl h))).trans ((hF_559 a j (fun h => hm (Or.inl h))).trans ((hF_552 a j (fun h => hm (Or.inl h))).trans (hFc a j (fun q => q.elim (fun h => hm (Or.inl h)) (fun q => q.elim (fun h => hm (Or.inr (Or.inl h))) (fun q => q.elim (fun h => hm (Or.inr (Or.inr (Or.inl h)))) (fun q => q.elim (fun h => hm (Or.inr (Or.inr (Or.inr (Or.inl h))))) (fun q => q.elim (fun h => hm (Or.inr (Or.inr (Or.inr (Or.inr (Or.inl h)))))) (fun q => q.elim (fun h => hm (Or.inr (Or.inr (Or.inr (Or.inr (Or.inr (Or.inl h))))))) (fun q => q.elim (fun h => hm (Or.inr (Or.inr (Or.inr (Or.inr (Or.inr (Or.inr (Or.inl h)))))))) (fun q => q.elim (fun h => hm (Or.inr (Or.inr (Or.inr (Or.inr (Or.inr (Or.inr (Or.inr (Or.inl h))))))))) (fun q => q.elim (fun h => hm (Or.inr (Or.inr (Or.inr (Or.inr (Or.inr (Or.inr (Or.inr (Or.inr (Or.inl h)))))))))) (fun h => hm (Or.inr (Or.inr (Or.inr (Or.inr (Or.inr (Or.inr (Or.inr (Or.inr (Or.inr h))))))))))))))))))))))))) (rt_i2 ⟨⟨by first | (clear h_1 h_2 h_3 h_4 h_5 h_6 h_7 h_8 h_9 h_10 h_11 h_12 h_13 h_14 h_15 h_16 h_17 h_18 h_19 h_20 h_21 h_23 h_24 h_25 h_96 h_115 h_116 h_407 h_412 h_523 h_524 h_525 h_526 h_527 h_528 h_529 h_531 h_532 h_533 h_535 h_536 h_537 h_539 h_540 h_541 h_543 h_544 h_546 h_547 h_549 h_555 h_556 h_592 h_612 h_605 h_613 h_606 h_614 h_607 h_615 h_608 h_618 h_626 h_627 h_628 h_629 h_26 h_392 h_548 h_624 h_625; omega) | omega, by first | (clear h_1 h_2 h_3 h_4 h_5 h_6 h_7 h_8 h_9 h_10 h_11 h_12 h_13 h_14 h_15 h_16 h_17 h_18 h_19 h_20 h_21 h_23 h_24 h_25 h_96 h_115 h_116 h_407 h_412 h_523 h_524 h_525 h_526 h_527 h_528 h_529 h_531 h_532 h_533 h_535 h_536 h_537 h_539 h_540 h_541 h_543 h_544 h_546 h_547 h_549 h_555 h_556 h_592 h_612 h_605 h_613 h_606 h_614 h_607 h_615 h_608 h_618 h_626 h_627 h_628 h_629 h_26 h_392 h_548 h_624 h_625; omega) | omega⟩, by first | (clear h_1 h_2 h_3 h_4 h_5 h_6 h_7 h_8 h_9 h_10 h_11 h_12 h_13 h_14 h_15 h_16 h_17 h_18 h_19 h_20 h_21 h_23 h_24 h_25 h_96 h_115 h_116 h_407 h_412 h_521 h_522 h_523 h_524 h_525 h_529 h_531 h_532 h_533 h_535 h_536 h_537 h_539 h_540 h_541 h_543 h_544 h_546 h_547 h_549 h_555 h_556 h_592 h_612 h_605 h_613 h_606 h_614 h_607 h_615 h_608 h_618 h_626 h_627 h_628 h_26 h_392 h_548 h_624 h_625; omega) | omega, by first | (clear h_1 h_2 h_3 h_4 h_5 h_6 h_7 h_8 h_9 h_10 h_11 h_12 h_13 h_14 h_15 h_16 h_17 h_18 h_19 h_20 h_21 h_23 h_24 h_25 h_96 h_115 h_116 h_407 h_412 h_521 h_522 h_523 h_524 h_525 h_529 h_531 h_532 h_533 h_535 h_536 h_537 h_539 h_540 h_541 h_543 h_544 h_546 h_547 h_549 h_555 h_556 h_592 h_612 h_605 h_613 h_606 h_614 h_607 h_615 h_608 h_618 h_626 h_627 h_628 h_26 h_392 h_548 h_624 h_625; omega) | omega, by first | (clear h_1 h_2 h_3 h_4 h_5 h_6 h_7 h_8 h_9 h_10 h_11 h_12 h_13 h_14 h_15 h_16 h_17 h_18 h_19 h_20 h_21 h_23 h_24 h_25 h_96 h_115 h_116 h_407 h_523 h_524 h_525 h_526 h_527 h_528 h_529 h_531 h_532 h_533 h_535 h_536 h_537 h_539 h_540 h_541 h_543 h_544 h_546 h_547 h_549 h_555 h_556 h_592 h_612 h_605 h_613 h_606 h_614 h_607 h_615 h_608 h_618 h_626 h_627 h_628 h_26 h_392 h_548; omega) | omega⟩) (Or.inr (Or.inl (by first | (clear h_1 h_2 h_3 h_4 h_5 h_6 h_7 h_8 h_9 h_10 h_11 h_12 h_13 h_14 h_15 h_16 h_17 h_18 h_19 h_20 h_21 h_23 h_24 h_25 h_96 h_115 h_116 h_407 h_412 h_523 h_524 h_525 h_526 h_527 h_528 h_529 h_531 h_532 h_533 h_535 h_536 h_537 h_539 h_540 h_541 h_543 h_544 h_546 h_547 h_549 h_555 h_556 h_592 h_612 h_605 h_613 h_606 h_614 h_607 h_615 h_608 h_618 h_626 h_627 h_628 h_629 h_26 h_392 h_548 h_624 h_625; omega) | omega))) (fun hz => absurd hz (by omega)) (fun hz => absurd hz (by omega)) (fun hz => absurd hz (by omega))
              · refine v_ic_ne_f (t := 41) rfl (by decide) (Decidable.not_not.mp h_392) ?_
                refine q_iconst rfl ?_
                refine q_goto (t := 42) rfl (by decide) ?_
                refine v_zret rfl rfl (by decide) ?_
                refine bk_inl ?_
                refine v_if_eq_f (t := 59) rfl (by decide) (by decide) ?_
                refine q_aload_n rfl rfl ?_
                refine q_iconst rfl ?_
                refine q_iload_n rfl rfl ?_
                refine v_cv rfl rfl rfl rfl (by decide) ⟨⟨rfl, rfl⟩, by decide, rfl⟩ (Nat.le_of_ble_eq_true rfl) (Nat.le_of_ble_eq_true rfl) ?_
                refine q_aload_n rfl rfl ?_
                refine v_gi (z := 4) (v := 0) rfl rfl rfl (by decide) rfl rfl (hz_118) ?_
                refine v_if_ne_f (t := 17) rfl (by decide) (by decide) ?_
                refine q_aload_n rfl rfl ?_
                refine q_iload_n rfl rfl ?_
                refine v_pi (z := 4) rfl rfl rfl (by decide) rfl rfl rfl (by decide) ?_
                refine q_aload_n rfl rfl ?_
                refine q_iload_n rfl rfl ?_
                refine v_pi (z := 5) rfl rfl rfl (by decide) rfl rfl rfl (by decide) ?_
                refine q_vret rfl rfl ?_
                refine bk_inl ?_
                refine q_aload_n rfl rfl ?_
                refine v_cv rfl rfl rfl rfl (by decide) ⟨⟨rfl, rfl⟩, by decide, rfl⟩ (Nat.le_of_ble_eq_true rfl) (Nat.le_of_ble_eq_true rfl) ?_
                refine q_aload_n rfl rfl ?_
                refine v_gi (z := 4) (v := 3) rfl rfl rfl (by decide) rfl rfl ((up_n (by decide)).trans (up_e rfl)) ?_
                refine v_if_ne_t (t := 11) rfl (by decide) (by decide) ?_
                refine q_iconst rfl ?_
                refine v_zret rfl rfl (by decide) ?_
                refine bk_inl ?_
                refine v_if_eq_t (t := 73) rfl (by decide) (by decide) ?_
                refine q_aload_n rfl rfl ?_
                refine q_ldc_s rfl rfl rfl (by decide) ?_
                refine v_cv rfl rfl rfl rfl (by decide) ⟨⟨rfl, rfl⟩, by decide, rfl⟩ (Nat.le_of_ble_eq_true rfl) (Nat.le_of_ble_eq_true rfl) ?_
                refine q_aload_n rfl rfl ?_
                refine v_cv rfl rfl rfl rfl (by decide) ⟨⟨rfl, rfl⟩, by decide, rfl⟩ (Nat.le_of_ble_eq_true rfl) (Nat.le_of_ble_eq_true rfl) ?_
                refine q_aload_n rfl rfl ?_
                refine v_gi (z := 4) (v := 3) rfl rfl rfl (by decide) rfl rfl ((up_n (by decide)).trans (up_e rfl)) ?_
                refine v_if_ne_t (t := 11) rfl (by decide) (by decide) ?_
                refine q_iconst rfl ?_
                refine v_zret rfl rfl (by decide) ?_
                refine bk_inl ?_
                refine v_if_eq_t (t := 25) rfl (by decide) (by decide) ?_
                refine q_vret rfl rfl ?_
                refine bk_inl ?_
                refine v_iinc (v := v + 1) rfl rfl (by decide) rfl ?_
                refine q_goto (t := 6) rfl (by decide) ?_
                refine q_iload_n rfl rfl ?_
                refine v_bip rfl (by decide) ?_
                refine v_ic_gt_f (t := 85) rfl (by decide) ⟨by first | exact rgp_l hv.1 (by decide) | omega, by first | (clear h_1 h_2 h_3 h_4 h_5 h_6 h_7 h_8 h_9 h_10 h_11 h_12 h_13 h_14 h_15 h_16 h_17 h_18 h_19 h_20 h_21 h_23 h_24 h_25 h_96 h_115 h_116 h_26; omega) | omega, by decide⟩ ?_
                refine q_aload_n rfl rfl ?_
                refine v_cv rfl rfl rfl rfl (by decide) ⟨⟨rfl, rfl⟩, by decide, rfl⟩ (Nat.le_of_ble_eq_true rfl) (Nat.le_of_ble_eq_true rfl) ?_
                refine q_aload_n rfl rfl ?_
                refine v_cv rfl rfl rfl rfl (by decide) ⟨⟨rfl, rfl⟩, by decide, rfl⟩ (Nat.le_of_ble_eq_true rfl) (Nat.le_of_ble_eq_true rfl) ?_
                refine q_aload_n rfl rfl ?_
                refine v_gi (z := 4) (v := 3) rfl rfl rfl (by decide) rfl rfl ((up_n (by decide)).trans (up_e rfl)) ?_
                refine v_if_ne_t (t := 11) rfl (by decide) (by decide) ?_
                refine q_iconst rfl ?_
                refine v_zret rfl rfl (by decide) ?_
                refine bk_inl ?_
                refine v_if_eq_t (t := 22) rfl (by decide) (by decide) ?_
                refine q_iconst rfl ?_
                refine v_zret rfl rfl (by decide) ?_
                refine bk_inl ?_
                refine v_if_eq_t (t := 85) rfl (by decide) (by decide) ?_
                refine q_vret rfl rfl ?_
                have hI_643 := iw_1_4 (v := 3) hI_113 ⟨by decide, by decide⟩
                have hI_644 := iw_1_5 (v := (nx F e1 a)) hI_643 ⟨by first | (clear h_1 h_2 h_3 h_4 h_5 h_6 h_7 h_8 h_9 h_10 h_11 h_12 h_13 h_14 h_15 h_16 h_17 h_18 h_19 h_20 h_21 h_23 h_25 h_115 h_116; omega) | omega, by first | (clear h_3 h_4 h_5 h_6 h_7 h_8 h_11 h_12 h_13 h_14 h_15 h_16 h_17 h_18 h_19 h_20 h_21 h_23 h_115 h_116; omega) | omega⟩
                intro hE_645
                have hW : Wd P Q P P (up (up c_112 1 4 3) 1 5 (nx F e1 a)) = Wd P Q P P m9 := (Prod.mk.inj (Prod.mk.inj hE_645).2).1
                have h_646 := ir_1_4 hJ9
                have h_647 : m9 1 4 = 3 := wd_fv (z := 4) 4 rfl hW rfl rfl rfl rfl (by decide) ((up_n (by decide)).trans (up_e rfl)) ⟨by decide, by decide⟩ ⟨(Int.le_trans (by decide) h_646.1), (Int.le_trans h_646.2 (by decide))⟩
                have h_648 := ir_1_2 hJ9
                have h_649 : m9 1 2 = (ln F e1 (nx F e1 a)) := wd_fv (z := 2) 2 rfl hW rfl rfl rfl rfl (by decide) ((up_n (by decide)).trans ((up_n (by decide)).trans (hz_117))) ⟨by first | (clear h_3 h_4 h_5 h_6 h_7 h_8 h_9 h_10 h_11 h_12 h_13 h_14 h_15 h_16 h_17 h_18 h_19 h_20 h_21 h_23 h_25 h_115 h_116 h_646 h_647 h_648; omega) | omega, by first | (clear h_3 h_4 h_5 h_6 h_7 h_8 h_9 h_10 h_11 h_12 h_13 h_14 h_15 h_16 h_17 h_18 h_19 h_20 h_21 h_23 h_25 h_115 h_116 h_646 h_647 h_648; omega) | omega⟩ ⟨(Int.le_trans (by decide) h_648.1), (Int.le_trans h_648.2 (by decide))⟩
                have h_650 := ir_1_5 hJ9
                have h_651 : m9 1 5 = (nx F e1 a) := wd_fv (z := 5) 5 rfl hW rfl rfl rfl rfl (by decide) (up_e rfl) ⟨by first | (clear h_1 h_2 h_3 h_4 h_5 h_6 h_7 h_8 h_9 h_10 h_11 h_12 h_13 h_14 h_15 h_16 h_17 h_18 h_19 h_20 h_21 h_23 h_25 h_115 h_116 h_646 h_647 h_648 h_649 h_650; omega) | omega, by first | (clear h_3 h_4 h_5 h_6 h_7 h_8 h_11 h_12 h_13 h_14 h_15 h_16 h_17 h_18 h_19 h_20 h_21 h_23 h_115 h_116 h_646 h_647 h_648 h_650; omega) | omega⟩ ⟨(Int.le_trans (by decide) h_650.1), (Int.le_trans h_650.2 (by decide))⟩
                have h_652 := ir_p0_0 hJ9 hA
                have h_653 : m9 A 0 = jr := wd_fv (z := 0) 0 rfl hW (ck_p0 hA) (ck_p0 hA) rfl rfl (by omega) ((up_c (np0 hA rfl)).trans ((up_c (np0 hA rfl)).trans (hid kn_391))) ⟨(Int.le_trans (by decide) hjr.1), (Int.le_trans hjr.2 (by decide))⟩ ⟨(Int.le_trans (by decide) h_652.1), (Int.le_trans h_652.2 (by decide))⟩
                have kn_654 : Hid (c_27 A 1 = st) := (hF_29 A 1 (fun h => absurd h.1 (np0 hA rfl))).trans (hg_st)
                have kn_655 : Hid (c_87 A 1 = st) := (hF_89 A 1 (fun h => absurd h.1 (np0 hA rfl))).trans (hid kn_654)
                have kn_656 : Hid (c_112 A 1 = st) := (hF_114 A 1 (fun q => q.elim (fun h => absurd h.1 (np0 hA rfl)) (fun q => q.elim (fun h => absurd h.1 (np0 hA rfl)) (fun h => absurd h.1 (np0 hA rfl))))).trans (hid kn_655)
                have h_657 := ir_p0_1 hJ9 hA
                have h_658 : m9 A 1 = st := wd_fv (z := 1) 1 rfl hW (ck_p0 hA) (ck_p0 hA) rfl rfl (by omega) ((up_c (np0 hA rfl)).trans ((up_c (np0 hA rfl)).trans (hid kn_656))) ⟨(Int.le_trans (by decide) hst.1), (Int.le_trans hst.2 (by decide))⟩ ⟨(Int.le_trans (by decide) h_657.1), (Int.le_trans h_657.2 (by decide))⟩
                have kn_659 : Hid (c_27 A 2 = si) := (hF_29 A 2 (fun h => absurd h.1 (np0 hA rfl))).trans (hg_si)
                have kn_660 : Hid (c_87 A 2 = si) := (hF_89 A 2 (fun h => absurd h.1 (np0 hA rfl))).trans (hid kn_659)
                have kn_661 : Hid (c_112 A 2 = si) := (hF_114 A 2 (fun q => q.elim (fun h => absurd h.1 (np0 hA rfl)) (fun q => q.elim (fun h => absurd h.1 (np0 hA rfl)) (fun h => absurd h.1 (np0 hA rfl))))).trans (hid kn_660)
                have h_662 := ir_p0_2 hJ9 hA
                have h_663 : m9 A 2 = si := wd_fv (z := 2) 2 rfl hW (ck_p0 hA) (ck_p0 hA) rfl rfl (by omega) ((up_c (np0 hA rfl)).trans ((up_c (np0 hA rfl)).trans (hid kn_661))) ⟨(Int.le_trans (by decide) hsi.1), (Int.le_trans hsi.2 (by decide))⟩ ⟨(Int.le_trans (by decide) h_662.1), (Int.le_trans h_662.2 (by decide))⟩
                have kn_664 : Hid (c_27 A 3 = du) := (hF_29 A 3 (fun h => absurd h.1 (np0 hA rfl))).trans (hg_du)
                have kn_665 : Hid (c_87 A 3 = du) := (hF_89 A 3 (fun h => absurd h.1 (np0 hA rfl))).trans (hid kn_664)
                have kn_666 : Hid (c_112 A 3 = du) := (hF_114 A 3 (fun q => q.elim (fun h => absurd h.1 (np0 hA rfl)) (fun q => q.elim (fun h => absurd h.1 (np0 hA rfl)) (fun h => absurd h.1 (np0 hA rfl))))).trans (hid kn_665)
                have h_667 := ir_p0_3 hJ9 hA
                have h_668 : m9 A 3 = du := wd_fv (z := 3) 3 rfl hW (ck_p0 hA) (ck_p0 hA) rfl rfl (by omega) ((up_c (np0 hA rfl)).trans ((up_c (np0 hA rfl)).trans (hid kn_666))) ⟨(Int.le_trans (by decide) hdu.1), (Int.le_trans hdu.2 (by decide))⟩ ⟨(Int.le_trans (by decide) h_667.1), (Int.le_trans h_667.2 (by decide))⟩
                refine q_aload_n rfl rfl ?_
                refine v_cv rfl rfl rfl rfl (by decide) ⟨⟨rfl, rfl⟩, by decide, rfl⟩ (Nat.le_of_ble_eq_true rfl) (Nat.le_of_ble_eq_true rfl) ?_
                refine q_aload_n rfl rfl ?_
                refine v_gi (z := 5) (v := (-1)) rfl rfl rfl (by decide) rfl rfl (hc_1) ?_
                refine q_iconst rfl ?_
                refine v_ic_ne_f (t := 12) rfl (by decide) (by decide) ?_
                refine q_iconst rfl ?_
                refine q_goto (t := 13) rfl (by decide) ?_
                refine v_zret rfl rfl (by decide) ?_
                refine bk_inl ?_
                refine v_if_eq_f (t := 136) rfl (by decide) (by decide) ?_
                refine q_aload_n rfl rfl ?_
                refine v_cv rfl rfl rfl rfl (by decide) ⟨⟨rfl, rfl⟩, by decide, rfl⟩ (Nat.le_of_ble_eq_true rfl) (Nat.le_of_ble_eq_true rfl) ?_
                refine q_aload_n rfl rfl ?_
                have kn_669 : Hid (c2 41 3 = e1) := (hFc 41 3 (fun q => q.elim (fun h => absurd h.2 (ni rfl)) (fun q => q.elim (fun h => absurd h.2 (ni rfl)) (fun q => q.elim (fun h => absurd h.2 (ni rfl)) (fun q => q.elim (fun h => absurd h.2 (ni rfl)) (fun q => q.elim (fun h => absurd h.2 (ni rfl)) (fun q => q.elim (fun h => absurd h.2 (ni rfl)) (fun q => q.elim (fun h => absurd h.2 (ni rfl)) (fun q => q.elim (fun h => absurd h (nn rfl)) (fun q => q.elim (fun h => absurd h (nn rfl)) (fun h => absurd h (nn rfl)))))))))))).trans (hr_e1)
                have h_670 : -2147483648 ≤ (H (nx F e1 a)) ∧ (H (nx F e1 a)) ≤ 2147483647 := by rw [← hH (nx F e1 a)]; exact ir_43 hI (nx F e1 a)
                have h_671 := hU (nx F e1 a) (by omega) (by omega)
                have h_672 := hb_or (b := H) (e := e1) (r := (nx F e1 a))
                have h_673 := hb_bd (b := H) (e := e1) (r := (nx F e1 a)) (lo := -2147483648) (hi := 2147483647) ⟨by omega, by omega⟩ (by decide)
                refine v_cv rfl rfl rfl rfl (by decide) ⟨⟨rfl, rfl⟩, by decide, rfl⟩ (Nat.le_of_ble_eq_true rfl) (Nat.le_of_ble_eq_true rfl) (f_154 (e1 := e1) (a9 := a) (B := H) (r8 := (nx F e1 a)) (r := (hb H e1 (nx F e1 a))) hI2 ((hid kn_669)) ((hr_a)) (fun j => (hFc 43 j (fun q => q.elim (fun h => absurd h.1 (nn rfl)) (fun q => q.elim (fun h => absurd h.1 (nn rfl)) (fun q => q.elim (fun h => absurd h.1 (nn rfl)) (fun q => q.elim (fun h => absurd h.1 (nn rfl)) (fun q => q.elim (fun h => absurd h.1 (nn rfl)) (fun q => q.elim (fun h => absurd h.1 (nn rfl)) (fun q => q.elim (fun h => absurd h.1 (nn rfl)) (fun q => q.elim (fun h => absurd h (nn rfl)) (fun q => q.elim (fun h => absurd h (nn rfl)) (fun h => absurd h (nn rfl)))))))))))).trans (hH j)) ((nx_tr hU (by first | (clear h_1 h_2 h_3 h_4 h_5 h_6 h_7 h_8 h_9 h_10 h_11 h_12 h_13 h_14 h_15 h_16 h_17 h_18 h_19 h_20 h_21 h_23 h_24 h_25 h_96 h_115 h_116 h_646 h_647 h_648 h_649 h_650 h_651 h_652 h_653 h_657 h_658 h_662 h_663 h_667 h_668 h_26; omega) | omega) (by first | (clear h_3 h_4 h_5 h_6 h_7 h_8 h_9 h_10 h_11 h_12 h_13 h_14 h_15 h_16 h_17 h_18 h_19 h_20 h_21 h_23 h_25 h_115 h_116 h_646 h_647 h_648 h_649 h_650 h_651 h_652 h_653 h_657 h_658 h_662 h_663 h_667 h_668; omega) | omega)).trans (rfl)) rfl (fun c_674 hI_675 hF_676 h_677 => ?_))
                refine bk_inl ?_
                refine q_pop rfl rfl ?_
                refine q_aload_n rfl rfl ?_
                refine v_gi (z := 4) (v := (nx F e1 a)) rfl rfl rfl (by decide) rfl rfl (h_677) ?_
                refine q_aload_n rfl rfl ?_
                have kn_678 : Hid (c_674 41 3 = e1) := (hF_676 41 3 (fun h => absurd h.2 (ni rfl))).trans (hid kn_669)
                refine v_gi (z := 3) (v := e1) rfl rfl rfl (by decide) rfl rfl (hid kn_678) ?_
                refine v_ic_ge_f (t := 20) rfl (by decide) ⟨by first | (clear h_1 h_2 h_3 h_4 h_5 h_6 h_7 h_8 h_9 h_10 h_11 h_12 h_13 h_14 h_15 h_16 h_17 h_18 h_19 h_20 h_21 h_23 h_25 h_115 h_116 h_646 h_647 h_648 h_649 h_650 h_652 h_653 h_657 h_658 h_662 h_663 h_667 h_668 h_670 h_671 h_673; omega) | omega, by first | (clear h_1 h_2 h_3 h_4 h_5 h_6 h_7 h_8 h_9 h_10 h_11 h_12 h_13 h_14 h_15 h_16 h_17 h_18 h_19 h_20 h_21 h_23 h_24 h_25 h_96 h_115 h_116 h_646 h_647 h_648 h_649 h_650 h_651 h_652 h_653 h_657 h_658 h_662 h_663 h_667 h_668 h_670 h_671 h_673 h_26 h_672; omega) | omega, (Int.le_trans (rg_eq hg_e1 h_1).2 (by decide))⟩ ?_
                refine q_iconst rfl ?_
                refine q_goto (t := 21) rfl (by decide) ?_
                refine v_zret rfl rfl (by decide) ?_
                refine bk_inl ?_
                refine v_if_eq_f (t := 136) rfl (by decide) (by decide) ?_
                refine q_aload_n rfl rfl ?_
                have h_679 := wv_bd (b := F) (r := (nx F e1 a)) (l := (ln F e1 (nx F e1 a))) (fun j h1 h2 => ⟨(ln_in (e := e1) (a := (nx F e1 a)) h1 h2).1, (ln_in (e := e1) (a := (nx F e1 a)) h1 h2).2.1⟩)
                have h_680 := wr8_0 (b := F) (r := (nx F e1 a)) (l := (ln F e1 (nx F e1 a))) (by omega) (fun j h1 h2 => ⟨(ln_in (e := e1) (a := (nx F e1 a)) h1 h2).1, (ln_in (e := e1) (a := (nx F e1 a)) h1 h2).2.1⟩) (by omega)
                refine v_cv rfl rfl rfl rfl (by decide) ⟨⟨rfl, rfl⟩, by decide, rfl⟩ (Nat.le_of_ble_eq_true rfl) (Nat.le_of_ble_eq_true rfl) (f_157 (e1 := e1) (a9 := (nx F e1 a)) (B := H) (r8 := (nx F e1 a)) (L8 := (ln F e1 (nx F e1 a))) (W8 := (wv F (nx F e1 a) (ln F e1 (nx F e1 a)))) hI_675 ((hid kn_678)) ((h_677)) (fun j => ((hF_676 43 j (fun h => absurd h.1 (nn rfl))).trans (hFc 43 j (fun q => q.elim (fun h => absurd h.1 (nn rfl)) (fun q => q.elim (fun h => absurd h.1 (nn rfl)) (fun q => q.elim (fun h => absurd h.1 (nn rfl)) (fun q => q.elim (fun h => absurd h.1 (nn rfl)) (fun q => q.elim (fun h => absurd h.1 (nn rfl)) (fun q => q.elim (fun h => absurd h.1 (nn rfl)) (fun q => q.elim (fun h => absurd h.1 (nn rfl)) (fun q => q.elim (fun h => absurd h (nn rfl)) (fun q => q.elim (fun h => absurd h (nn rfl)) (fun h => absurd h (nn rfl))))))))))))).trans (hH j)) ((nx_tr hU (by first | (clear h_1 h_2 h_3 h_4 h_5 h_6 h_7 h_8 h_9 h_10 h_11 h_12 h_13 h_14 h_15 h_16 h_17 h_18 h_19 h_20 h_21 h_23 h_25 h_115 h_116 h_646 h_647 h_648 h_649 h_650 h_652 h_653 h_657 h_658 h_662 h_663 h_667 h_668 h_670 h_671 h_673; omega) | omega) (by first | (clear h_3 h_4 h_5 h_6 h_7 h_8 h_9 h_10 h_11 h_12 h_13 h_14 h_15 h_16 h_17 h_18 h_19 h_20 h_21 h_23 h_25 h_115 h_116 h_646 h_647 h_648 h_649 h_650 h_651 h_652 h_653 h_657 h_658 h_662 h_663 h_667 h_668 h_670 h_671 h_673; omega) | omega)).trans ((nx_z (by omega)))) ((ln_tr hU (by first | (clear h_1 h_2 h_3 h_4 h_5 h_6 h_7 h_8 h_9 h_10 h_11 h_12 h_13 h_14 h_15 h_16 h_17 h_18 h_19 h_20 h_21 h_23 h_25 h_115 h_116 h_646 h_647 h_648 h_649 h_650 h_652 h_653 h_657 h_658 h_662 h_663 h_667 h_668 h_670 h_671 h_673; omega) | omega) (by first | (clear h_3 h_4 h_5 h_6 h_7 h_8 h_9 h_10 h_11 h_12 h_13 h_14 h_15 h_16 h_17 h_18 h_19 h_20 h_21 h_23 h_25 h_115 h_116 h_646 h_647 h_648 h_649 h_650 h_651 h_652 h_653 h_657 h_658 h_662 h_663 h_667 h_668 h_670 h_671 h_673; omega) | omega)).trans (rfl)) ((wv_tr hU (by first | (clear h_1 h_2 h_3 h_4 h_5 h_6 h_7 h_8 h_9 h_10 h_11 h_12 h_13 h_14 h_15 h_16 h_17 h_18 h_19 h_20 h_21 h_23 h_25 h_115 h_116 h_646 h_647 h_648 h_649 h_650 h_652 h_653 h_657 h_658 h_662 h_663 h_667 h_668 h_670 h_671 h_673 h_679 h_680; omega) | omega) (by first | (clear h_3 h_4 h_5 h_6 h_7 h_8 h_9 h_10 h_11 h_12 h_13 h_14 h_15 h_16 h_17 h_18 h_19 h_20 h_21 h_23 h_25 h_115 h_116 h_646 h_647 h_650 h_652 h_653 h_657 h_658 h_662 h_663 h_667 h_668 h_670 h_671 h_673 h_679 h_680; omega) | omega) (fun j h1 h2 => ⟨(ln_in (e := e1) (a := (nx F e1 a)) h1 h2).1, (ln_in (e := e1) (a := (nx F e1 a)) h1 h2).2.1⟩)).trans (rfl)) (fun c_681 hI_682 hF_683 hz_684 => ?_))
                refine bk_inl ?_
                refine q_istore_n rfl (by decide) ?_
                refine q_iload_n rfl rfl ?_
                refine q_call rfl rfl rfl rfl ?_
                refine q_iload_n rfl rfl ?_
                refine q_ldc_s rfl rfl rfl (by decide) ?_
                refine q_call rfl rfl rfl rfl (s_158_16 ?_)
                refine bk_inl ?_
                refine v_ic_eq_t (t := 36) rfl (by decide) (by first | (clear h_1 h_2 h_3 h_4 h_5 h_6 h_7 h_8 h_9 h_10 h_11 h_12 h_13 h_14 h_15 h_16 h_17 h_18 h_19 h_20 h_21 h_23 h_24 h_25 h_96 h_115 h_116 h_646 h_647 h_648 h_649 h_650 h_651 h_652 h_653 h_657 h_658 h_662 h_663 h_667 h_668 h_670 h_671 h_673 h_26 h_672; omega) | omega) ?_
                refine q_iconst rfl ?_
                refine q_goto (t := 41) rfl (by decide) ?_
                refine v_zret rfl rfl (by decide) ?_
                refine bk_inl ?_
                refine v_if_ne_t (t := 82) rfl (by decide) (by decide) ?_
                refine q_iload_n rfl rfl ?_
                refine v_bip rfl (by decide) ?_
                refine v_ic_eq_f (t := 96) rfl (by decide) ⟨by first | (clear h_1 h_2 h_3 h_4 h_5 h_6 h_7 h_8 h_9 h_10 h_11 h_12 h_13 h_14 h_15 h_16 h_17 h_18 h_19 h_20 h_21 h_23 h_24 h_25 h_96 h_115 h_116 h_646 h_647 h_648 h_649 h_650 h_651 h_652 h_653 h_657 h_658 h_662 h_663 h_667 h_668 h_670 h_671 h_673 h_679 h_680 h_26 h_672; omega) | omega, ⟨(Int.le_trans (by decide) hv.1), (Int.le_trans hv.2 (by decide))⟩, by decide, by decide⟩ ?_
                refine q_aload_n rfl rfl ?_
                refine q_iload_n rfl rfl ?_
                refine v_cv rfl rfl rfl rfl (by decide) ⟨⟨rfl, rfl⟩, by decide, rfl⟩ (Nat.le_of_ble_eq_true rfl) (Nat.le_of_ble_eq_true rfl) ?_
                refine q_iload_n rfl rfl ?_
                refine q_ldc_s rfl rfl rfl (by decide) ?_
                refine q_call rfl rfl rfl rfl (s_158_16 ?_)
                refine bk_inl ?_
                refine v_ic_ne_f (t := 26) rfl (by decide) (by first | (clear h_1 h_2 h_3 h_4 h_5 h_6 h_7 h_8 h_9 h_10 h_11 h_12 h_13 h_14 h_15 h_16 h_17 h_18 h_19 h_20 h_21 h_23 h_24 h_25 h_96 h_115 h_116 h_646 h_647 h_648 h_649 h_650 h_651 h_652 h_653 h_657 h_658 h_662 h_663 h_667 h_668 h_670 h_671 h_673 h_26 h_672; omega) | omega) ?_
                refine q_aload_n rfl rfl ?_
                have kn_685 : Hid (c_674 41 16 = jr) := (hF_676 41 16 (fun h => absurd h.2 (ni rfl))).trans (hr_jr)
                have kn_686 : Hid (c_681 41 16 = jr) := (hF_683 41 16 (fun h => absurd h.2 (ni rfl))).trans (hid kn_685)
                refine v_gi (z := 16) (v := jr) rfl rfl rfl (by decide) rfl rfl (hid kn_686) ?_
                refine v_bip rfl (by decide) ?_
                refine v_ic_ne_f (t := 22) rfl (by decide) (by first | (clear h_1 h_2 h_3 h_4 h_5 h_6 h_7 h_8 h_9 h_10 h_11 h_12 h_13 h_14 h_15 h_16 h_17 h_18 h_19 h_20 h_21 h_23 h_24 h_25 h_96 h_115 h_116 h_646 h_647 h_648 h_649 h_650 h_651 h_652 h_653 h_657 h_658 h_662 h_663 h_667 h_668 h_670 h_671 h_673 h_679 h_680 h_26 h_672; omega) | omega) ?_
                refine q_iconst rfl ?_
                refine q_goto (t := 73) rfl (by decide) ?_
                refine v_zret rfl rfl (by decide) ?_
                refine bk_inl ?_
                refine v_if_eq_f (t := 105) rfl (by decide) (by decide) ?_
                refine q_aload_n rfl rfl ?_
                refine q_iconst rfl ?_
                refine q_aload_n rfl rfl ?_
                refine v_gi (z := 4) (v := (nx F e1 a)) rfl rfl rfl (by decide) rfl rfl (hz_684) ?_
                refine v_cv rfl rfl rfl rfl (by decide) ⟨⟨rfl, rfl⟩, by decide, rfl⟩ (Nat.le_of_ble_eq_true rfl) (Nat.le_of_ble_eq_true rfl) ?_
                refine q_aload_n rfl rfl ?_
                have kn_687 : Hid (c_674 41 5 = (-1)) := (hF_676 41 5 (fun h => absurd h.2 (ni rfl))).trans (hc_1)
                have kn_688 : Hid (c_681 41 5 = (-1)) := (hF_683 41 5 (fun h => absurd h.2 (ni rfl))).trans (hid kn_687)
                refine v_gi (z := 5) (v := (-1)) rfl rfl rfl (by decide) rfl rfl (hid kn_688) ?_
                refine q_iconst rfl ?_
                refine v_ic_eq_t (t := 9) rfl (by decide) (by decide) ?_
                refine q_aload_n rfl rfl ?_
                refine q_iload_n rfl rfl ?_
                refine v_pi (z := 5) rfl rfl rfl (by decide) rfl rfl rfl (by decide) ?_
                refine q_aload_n rfl rfl ?_
                refine q_iload_n rfl rfl ?_
                refine v_pi (z := 6) rfl rfl rfl (by decide) rfl rfl rfl (by decide) ?_
                refine q_vret rfl rfl ?_
                refine bk_inl ?_
                refine q_aload_n rfl rfl ?_
                refine v_cv rfl rfl rfl rfl (by decide) ⟨⟨rfl, rfl⟩, by decide, rfl⟩ (Nat.le_of_ble_eq_true rfl) (Nat.le_of_ble_eq_true rfl) ?_
                refine q_aload_n rfl rfl ?_
                refine v_gi (z := 5) (v := (nx F e1 a)) rfl rfl rfl (by decide) rfl rfl ((up_n (by decide)).trans (up_e rfl)) ?_
                refine q_iconst rfl ?_
                refine v_ic_ne_t (t := 12) rfl (by decide) ⟨by first | (clear h_1 h_2 h_3 h_4 h_5 h_6 h_7 h_8 h_9 h_10 h_11 h_12 h_13 h_14 h_15 h_16 h_17 h_18 h_19 h_20 h_21 h_23 h_25 h_115 h_116 h_646 h_647 h_648 h_649 h_650 h_652 h_653 h_657 h_658 h_662 h_663 h_667 h_668 h_670 h_671 h_673 h_679 h_680; omega) | omega, ⟨by first | (clear h_1 h_2 h_3 h_4 h_5 h_6 h_7 h_8 h_9 h_10 h_11 h_12 h_13 h_14 h_15 h_16 h_17 h_18 h_19 h_20 h_21 h_23 h_25 h_115 h_116 h_646 h_647 h_648 h_649 h_650 h_652 h_653 h_657 h_658 h_662 h_663 h_667 h_668 h_670 h_671 h_673 h_679 h_680; omega) | omega, by first | (clear h_3 h_4 h_5 h_6 h_7 h_8 h_11 h_12 h_13 h_14 h_15 h_16 h_17 h_18 h_19 h_20 h_21 h_23 h_115 h_116 h_646 h_647 h_648 h_652 h_653 h_657 h_658 h_662 h_663 h_667 h_668 h_679 h_680; omega) | omega⟩, by decide, by decide⟩ ?_
                refine q_iconst rfl ?_
                refine v_zret rfl rfl (by decide) ?_
                refine bk_inl ?_
                refine v_if_ne_f (t := 115) rfl (by decide) (by decide) ?_
                refine q_goto (t := 136) rfl (by decide) ?_
                refine Wp_ls [(0, .ref 41), (1, vi a1)] (lsub_cons rfl (lsub_cons rfl lsub_nil)) ?_
                have hI_689 := iw_41_5 (v := (nx F e1 a)) hI_682 ⟨by first | (clear h_1 h_2 h_3 h_4 h_5 h_6 h_7 h_8 h_9 h_10 h_11 h_12 h_13 h_14 h_15 h_16 h_17 h_18 h_19 h_20 h_21 h_23 h_25 h_115 h_116 h_646 h_647 h_648 h_649 h_650 h_652 h_653 h_657 h_658 h_662 h_663 h_667 h_668 h_670 h_671 h_673 h_679 h_680; omega) | omega, by first | (clear h_3 h_4 h_5 h_6 h_7 h_8 h_11 h_12 h_13 h_14 h_15 h_16 h_17 h_18 h_19 h_20 h_21 h_23 h_115 h_116 h_646 h_647 h_648 h_652 h_653 h_657 h_658 h_662 h_663 h_667 h_668 h_679 h_680; omega) | omega⟩
                have hI_690 := iw_41_6 (v := 3) hI_689 ⟨by decide, by decide⟩
                have h_691 : (up (up c_681 41 5 (nx F e1 a)) 41 6 3) 41 5 = (nx F e1 a) := ((up_n (by decide)).trans (up_e rfl))
                have h_692 : (up (up c_681 41 5 (nx F e1 a)) 41 6 3) 41 4 = (nx F e1 a) := ((up_n (by decide)).trans ((up_n (by decide)).trans (hz_684)))
                have h_693 : (up (up c_681 41 5 (nx F e1 a)) 41 6 3) 41 6 = 3 := (up_e rfl)
                have h_694 : (up (up c_681 41 5 (nx F e1 a)) 41 6 3) 41 16 = jr := ((up_n (by decide)).trans ((up_n (by decide)).trans (hid kn_686)))
                have kn_695 : Hid (c_674 41 17 = st) := (hF_676 41 17 (fun h => absurd h.2 (ni rfl))).trans (hr_st)
                have kn_696 : Hid (c_681 41 17 = st) := (hF_683 41 17 (fun h => absurd h.2 (ni rfl))).trans (hid kn_695)
                have h_697 : (up (up c_681 41 5 (nx F e1 a)) 41 6 3) 41 17 = st := ((up_n (by decide)).trans ((up_n (by decide)).trans (hid kn_696)))
                have kn_698 : Hid (c_674 41 18 = si) := (hF_676 41 18 (fun h => absurd h.2 (ni rfl))).trans (hr_si)
                have kn_699 : Hid (c_681 41 18 = si) := (hF_683 41 18 (fun h => absurd h.2 (ni rfl))).trans (hid kn_698)
                have h_700 : (up (up c_681 41 5 (nx F e1 a)) 41 6 3) 41 18 = si := ((up_n (by decide)).trans ((up_n (by decide)).trans (hid kn_699)))
                have kn_701 : Hid (c_674 41 19 = du) := (hF_676 41 19 (fun h => absurd h.2 (ni rfl))).trans (hr_du)
                have kn_702 : Hid (c_681 41 19 = du) := (hF_683 41 19 (fun h => absurd h.2 (ni rfl))).trans (hid kn_701)
                have h_703 : (up (up c_681 41 5 (nx F e1 a)) 41 6 3) 41 19 = du := ((up_n (by decide)).trans ((up_n (by decide)).trans (hid kn_702)))
                have h_704 : (up (up c_681 41 5 (nx F e1 a)) 41 6 3) 41 16 = jr := ((up_n (by decide)).trans ((up_n (by decide)).trans (hid kn_686)))
                have h_705 : (up (up c_681 41 5 (nx F e1 a)) 41 6 3) 41 17 = st := ((up_n (by decide)).trans ((up_n (by decide)).trans (hid kn_696)))
                have h_706 : (up (up c_681 41 5 (nx F e1 a)) 41 6 3) 41 18 = si := ((up_n (by decide)).trans ((up_n (by decide)).trans (hid kn_699)))
                exact K (up (up c_681 41 5 (nx F e1 a)) 41 6 3)  hI_690 (fun a j hm => (up_b (Decidable.or_iff_not_imp_left.mpr (fun h1 h2 => hm (Or.inr (Or.inr (Or.inl ⟨Decidable.not_not.mp h1, h2⟩)))))).trans ((up_b (Decidable.or_iff_not_imp_left.mpr (fun h1 h2 => hm (Or.inr (Or.inl ⟨Decidable.not_not.mp h1, h2⟩))))).trans ((hF_683 a j (fun h => hm (Or.inl h))).trans ((hF_676 a j (fun h => hm (Or.inl h))).trans (hFc a j (fun q => q.elim (fun h => hm (Or.inl h)) (fun q => q.elim (fun h => hm (Or.inr (Or.inl h))) (fun q => q.elim (fun h => hm (Or.inr (Or.inr (Or.inl h)))) (fun q => q.elim (fun h => hm (Or.inr (Or.inr (Or.inr (Or.inl h))))) (fun q => q.elim (fun h => hm (Or.inr (Or.inr (Or.inr (Or.inr (Or.inl h)))))) (fun q => q.elim (fun h => hm (Or.inr (Or.inr (Or.inr (Or.inr (Or.inr (Or.inl h))))))) (fun q => q.elim (fun h => hm (Or.inr (Or.inr (Or.inr (Or.inr (Or.inr (Or.inr (Or.inl h)))))))) (fun q => q.elim (fun h => hm (Or.inr (Or.inr (Or.inr (Or.inr (Or.inr (Or.inr (Or.inr (Or.inl h))))))))) (fun q => q.elim (fun h => hm (Or.inr (Or.inr (Or.inr (Or.inr (Or.inr (Or.inr (Or.inr (Or.inr (Or.inl h)))))))))) (fun h => hm (Or.inr (Or.inr (Or.inr (Or.inr (Or.inr (Or.inr (Or.inr (Or.inr (Or.inr h)))))))))))))))))))))))) (rt_i2 ⟨⟨by first | (clear h_1 h_2 h_3 h_4 h_5 h_6 h_7 h_8 h_9 h_10 h_11 h_12 h_13 h_14 h_15 h_16 h_17 h_18 h_19 h_20 h_21 h_23 h_24 h_25 h_96 h_115 h_116 h_648 h_649 h_650 h_651 h_652 h_653 h_657 h_658 h_662 h_663 h_667 h_668 h_670 h_671 h_673 h_679 h_680 h_26 h_672; omega) | omega, by first | (clear h_1 h_2 h_3 h_4 h_5 h_6 h_7 h_8 h_9 h_10 h_11 h_12 h_13 h_14 h_15 h_16 h_17 h_18 h_19 h_20 h_21 h_23 h_24 h_25 h_96 h_115 h_116 h_648 h_649 h_650 h_651 h_652 h_653 h_657 h_658 h_662 h_663 h_667 h_668 h_670 h_671 h_673 h_679 h_680 h_26 h_672; omega) | omega⟩, by first | (clear h_1 h_2 h_3 h_4 h_5 h_6 h_7 h_8 h_9 h_10 h_11 h_12 h_13 h_14 h_15 h_16 h_17 h_18 h_19 h_20 h_21 h_23 h_25 h_115 h_116 h_646 h_647 h_648 h_649 h_652 h_653 h_657 h_658 h_662 h_663 h_667 h_668 h_670 h_671 h_673 h_679 h_680; omega) | omega, by first | (clear h_1 h_2 h_3 h_4 h_5 h_6 h_7 h_8 h_9 h_10 h_11 h_12 h_13 h_14 h_15 h_16 h_17 h_18 h_19 h_20 h_21 h_23 h_25 h_115 h_116 h_646 h_647 h_648 h_649 h_652 h_653 h_657 h_658 h_662 h_663 h_667 h_668 h_670 h_671 h_673 h_679 h_680; omega) | omega, by first | (clear h_1 h_2 h_3 h_4 h_5 h_6 h_7 h_8 h_9 h_10 h_11 h_12 h_13 h_14 h_15 h_16 h_17 h_18 h_19 h_20 h_21 h_23 h_24 h_25 h_96 h_115 h_116 h_648 h_649 h_650 h_651 h_652 h_653 h_657 h_658 h_662 h_663 h_667 h_668 h_670 h_671 h_673 h_679 h_680 h_26 h_672; omega) | omega⟩) (Or.inr (Or.inl (by first | (clear h_1 h_2 h_3 h_4 h_5 h_6 h_7 h_8 h_9 h_10 h_11 h_12 h_13 h_14 h_15 h_16 h_17 h_18 h_19 h_20 h_21 h_23 h_24 h_25 h_96 h_115 h_116 h_648 h_649 h_650 h_651 h_652 h_653 h_657 h_658 h_662 h_663 h_667 h_668 h_670 h_671 h_673 h_679 h_680 h_26 h_672; omega) | omega))) (fun hz => absurd hz (by omega)) (fun hz => absurd hz (by omega)) (fun hz => absurd hz (by omega))
          by_cases h_707 : (wd8_0 F (nx F e1 a) (ln F e1 (nx F e1 a))) = 1
          · as_aux_lemma =>
              skip
              refine v_tsw_i (t := 43) 1 rfl (by omega) (by decide) rfl (by decide) ?_
              refine q_aload_n rfl rfl ?_
              have kn_708 : Hid (c_27 A 1 = st) := (hF_29 A 1 (fun h => absurd h.1 (np0 hA rfl))).trans (hg_st)
              have kn_709 : Hid (c_87 A 1 = st) := (hF_89 A 1 (fun h => absurd h.1 (np0 hA rfl))).trans (hid kn_708)
              have kn_710 : Hid (c_112 A 1 = st) := (hF_114 A 1 (fun q => q.elim (fun h => absurd h.1 (np0 hA rfl)) (fun q => q.elim (fun h => absurd h.1 (np0 hA rfl)) (fun h => absurd h.1 (np0 hA rfl))))).trans (hid kn_709)
              refine v_gi (z := 1) (v := st) rfl rfl (ck_p0 hA) (by omega) rfl rfl (hid kn_710) ?_
              refine q_iconst rfl ?_
              by_cases h_711 : st ≠ 4
              · refine v_ic_ne_t (t := 55) rfl (by decide) ⟨h_711, ⟨(Int.le_trans (by decide) hst.1), (Int.le_trans hst.2 (by decide))⟩, by decide, by decide⟩ ?_
                refine q_iconst rfl ?_
                refine v_zret rfl rfl (by decide) ?_
                refine bk_inl ?_
                refine v_if_eq_t (t := 59) rfl (by decide) (by decide) ?_
                refine q_aload_n rfl rfl ?_
                refine v_cv rfl rfl rfl rfl (by decide) ⟨⟨rfl, rfl⟩, by decide, rfl⟩ (Nat.le_of_ble_eq_true rfl) (Nat.le_of_ble_eq_true rfl) ?_
                refine q_aload_n rfl rfl ?_
                refine v_gi (z := 4) (v := 0) rfl rfl rfl (by decide) rfl rfl (hz_118) ?_
                refine v_if_ne_f (t := 11) rfl (by decide) (by decide) ?_
                refine q_iconst rfl ?_
                refine q_goto (t := 12) rfl (by decide) ?_
                refine v_zret rfl rfl (by decide) ?_
                refine bk_inl ?_
                refine v_if_eq_f (t := 73) rfl (by decide) (by decide) ?_
                refine q_aload_n rfl rfl ?_
                refine q_aload_n rfl rfl ?_
                refine q_iload rfl rfl ?_
                have hw_712 : (wd8_0 F (nx F e1 a) (ln F e1 (nx F e1 a))) = 1 := by omega
                rw [hw_712]
                have kn_713 : Hid (c_27 A 0 = jr) := (hF_29 A 0 (fun h => absurd h.1 (np0 hA rfl))).trans (hg_jr)
                have kn_714 : Hid (c_87 A 0 = jr) := (hF_89 A 0 (fun h => absurd h.1 (np0 hA rfl))).trans (hid kn_713)
                have kn_715 : Hid (c_112 A 0 = jr) := (hF_114 A 0 (fun q => q.elim (fun h => absurd h.1 (np0 hA rfl)) (fun q => q.elim (fun h => absurd h.1 (np0 hA rfl)) (fun h => absurd h.1 (np0 hA rfl))))).trans (hid kn_714)
                have h_716 : c_112 A 0 = jr := (hid kn_715)
                have h_717 : c_112 A 1 = st := (hid kn_710)
                have kn_718 : Hid (c_27 A 2 = si) := (hF_29 A 2 (fun h => absurd h.1 (np0 hA rfl))).trans (hg_si)
                have kn_719 : Hid (c_87 A 2 = si) := (hF_89 A 2 (fun h => absurd h.1 (np0 hA rfl))).trans (hid kn_718)
                have kn_720 : Hid (c_112 A 2 = si) := (hF_114 A 2 (fun q => q.elim (fun h => absurd h.1 (np0 hA rfl)) (fun q => q.elim (fun h => absurd h.1 (np0 hA rfl)) (fun h => absurd h.1 (np0 hA rfl))))).trans (hid kn_719)
                have h_721 : c_112 A 2 = si := (hid kn_720)
                refine v_cv rfl rfl rfl (ck_p0 hA) (by omega) ⟨⟨rfl, rfl⟩, by decide, rfl⟩ (Nat.le_of_ble_eq_true rfl) (Nat.le_of_ble_eq_true rfl) (fn_of (s_33 (a2 := 1) hI_113 hA (show 0 ≤ 1 ∧ 1 ≤ 100 from ⟨by decide, by decide⟩) (Or.inl (by first | (clear h_1 h_2 h_3 h_4 h_5 h_6 h_7 h_8 h_9 h_10 h_11 h_12 h_13 h_14 h_15 h_16 h_17 h_18 h_19 h_20 h_21 h_23 h_24 h_25 h_96 h_115 h_116 h_26 h_711; omega) | omega)) (Or.inr (by first | (clear h_1 h_2 h_3 h_4 h_5 h_6 h_7 h_8 h_9 h_10 h_11 h_12 h_15 h_16 h_17 h_18 h_19 h_20 h_21 h_23 h_24 h_25 h_96 h_115 h_116 h_26; omega) | omega)) (Or.inl (by first | (clear h_1 h_2 h_3 h_4 h_5 h_6 h_7 h_8 h_9 h_10 h_11 h_12 h_13 h_14 h_15 h_16 h_17 h_18 h_19 h_20 h_21 h_23 h_24 h_25 h_96 h_115 h_116 h_26 h_711; omega) | omega)) (fun c_722 hI_723 hF_724 => ?_)))
                intro hG_725
                refine bk_inl ?_
                refine q_aload_n rfl rfl ?_
                refine q_ldc_s rfl rfl rfl (by decide) ?_
                have h_726 := ir_1_4 hI_723
                refine v_cv rfl rfl rfl rfl (by decide) ⟨⟨rfl, rfl⟩, by decide, rfl⟩ (Nat.le_of_ble_eq_true rfl) (Nat.le_of_ble_eq_true rfl) (fn_of (s_11 hI_723 (q := 9) (nt := 1) (by decide) (by decide) (by decide) (fun c_727 hI_728 hF_729 => ?_)))
                intro hG_730
                refine bk_inl ?_
                refine v_iinc (v := v + 1) rfl rfl (by decide) rfl ?_
                refine q_goto (t := 6) rfl (by decide) ?_
                have h_731 := ir_1_4 hI_728
                by_cases h_732 : c_727 1 4 = 0
                · skip
                  refine Wp_ls [(0, .ref A), (1, .ref 1), (2, vi (v + 1))] (lsub_cons rfl (lsub_cons rfl (lsub_cons rfl lsub_nil))) ?_
                  refine gh_stop (s_34_l (sc := sc) (d := dh + 18) (c := c_727) (Z := fun _ => True) hI_728 hA (fun _ _ _ => trivial) 124 c_727 (v + 1) hI_728 (fun a j hm => rfl) ⟨by omega, by omega⟩ (by omega)) (fun hG_733 => ?_)
                  refine q_aload_n rfl rfl ?_
                  refine v_cv rfl rfl rfl rfl (by decide) ⟨⟨rfl, rfl⟩, by decide, rfl⟩ (Nat.le_of_ble_eq_true rfl) (Nat.le_of_ble_eq_true rfl) ?_
                  refine q_aload_n rfl rfl ?_
                  refine v_gi (z := 5) (v := (-1)) rfl rfl rfl (by decide) rfl rfl (hc_1) ?_
                  refine q_iconst rfl ?_
                  refine v_ic_ne_f (t := 12) rfl (by decide) (by decide) ?_
                  refine q_iconst rfl ?_
                  refine q_goto (t := 13) rfl (by decide) ?_
                  refine v_zret rfl rfl (by decide) ?_
                  refine bk_inl ?_
                  refine v_if_eq_f (t := 136) rfl (by decide) (by decide) ?_
                  refine q_aload_n rfl rfl ?_
                  refine v_cv rfl rfl rfl rfl (by decide) ⟨⟨rfl, rfl⟩, by decide, rfl⟩ (Nat.le_of_ble_eq_true rfl) (Nat.le_of_ble_eq_true rfl) ?_
                  refine q_aload_n rfl rfl ?_
                  have kn_734 : Hid (c2 41 3 = e1) := (hFc 41 3 (fun q => q.elim (fun h => absurd h.2 (ni rfl)) (fun q => q.elim (fun h => absurd h.2 (ni rfl)) (fun q => q.elim (fun h => absurd h.2 (ni rfl)) (fun q => q.elim (fun h => absurd h.2 (ni rfl)) (fun q => q.elim (fun h => absurd h.2 (ni rfl)) (fun q => q.elim (fun h => absurd h.2 (ni rfl)) (fun q => q.elim (fun h => absurd h.2 (ni rfl)) (fun q => q.elim (fun h => absurd h (nn rfl)) (fun q => q.elim (fun h => absurd h (nn rfl)) (fun h => absurd h (nn rfl)))))))))))).trans (hr_e1)
                  have h_735 : -2147483648 ≤ (H (nx F e1 a)) ∧ (H (nx F e1 a)) ≤ 2147483647 := by rw [← hH (nx F e1 a)]; exact ir_43 hI (nx F e1 a)
                  have h_736 := hU (nx F e1 a) (by omega) (by omega)
                  have h_737 := hb_or (b := H) (e := e1) (r := (nx F e1 a))
                  have h_738 := hb_bd (b := H) (e := e1) (r := (nx F e1 a)) (lo := -2147483648) (hi := 2147483647) ⟨by omega, by omega⟩ (by decide)
                  refine v_cv rfl rfl rfl rfl (by decide) ⟨⟨rfl, rfl⟩, by decide, rfl⟩ (Nat.le_of_ble_eq_true rfl) (Nat.le_of_ble_eq_true rfl) (f_154 (e1 := e1) (a9 := a) (B := H) (r8 := (nx F e1 a)) (r := (hb H e1 (nx F e1 a))) hI2 ((hid kn_734)) ((hr_a)) (fun j => (hFc 43 j (fun q => q.elim (fun h => absurd h.1 (nn rfl)) (fun q => q.elim (fun h => absurd h.1 (nn rfl)) (fun q => q.elim (fun h => absurd h.1 (nn rfl)) (fun q => q.elim (fun h => absurd h.1 (nn rfl)) (fun q => q.elim (fun h => absurd h.1 (nn rfl)) (fun q => q.elim (fun h => absurd h.1 (nn rfl)) (fun q => q.elim (fun h => absurd h.1 (nn rfl)) (fun q => q.elim (fun h => absurd h (nn rfl)) (fun q => q.elim (fun h => absurd h (nn rfl)) (fun h => absurd h (nn rfl)))))))))))).trans (hH j)) ((nx_tr hU (by first | (clear h_1 h_2 h_3 h_4 h_5 h_6 h_7 h_8 h_9 h_10 h_11 h_12 h_13 h_14 h_15 h_16 h_17 h_18 h_19 h_20 h_21 h_23 h_24 h_25 h_96 h_115 h_116 h_726 h_731 h_732 h_26 h_711; omega) | omega) (by first | (clear h_3 h_4 h_5 h_6 h_7 h_8 h_9 h_10 h_11 h_12 h_13 h_14 h_15 h_16 h_17 h_18 h_19 h_20 h_21 h_23 h_25 h_115 h_116 h_726 h_731 h_732 h_711; omega) | omega)).trans (rfl)) rfl (fun c_739 hI_740 hF_741 h_742 => ?_))
                  refine bk_inl ?_
                  refine q_pop rfl rfl ?_
                  refine q_aload_n rfl rfl ?_
                  refine v_gi (z := 4) (v := (nx F e1 a)) rfl rfl rfl (by decide) rfl rfl (h_742) ?_
                  refine q_aload_n rfl rfl ?_
                  have kn_743 : Hid (c_739 41 3 = e1) := (hF_741 41 3 (fun h => absurd h.2 (ni rfl))).trans (hid kn_734)
                  refine v_gi (z := 3) (v := e1) rfl rfl rfl (by decide) rfl rfl (hid kn_743) ?_
                  refine v_ic_ge_f (t := 20) rfl (by decide) ⟨by first | (clear h_1 h_2 h_3 h_4 h_5 h_6 h_7 h_8 h_9 h_10 h_11 h_12 h_13 h_14 h_15 h_16 h_17 h_18 h_19 h_20 h_21 h_23 h_25 h_115 h_116 h_726 h_731 h_732 h_735 h_736 h_738 h_711; omega) | omega, by first | (clear h_1 h_2 h_3 h_4 h_5 h_6 h_7 h_8 h_9 h_10 h_11 h_12 h_13 h_14 h_15 h_16 h_17 h_18 h_19 h_20 h_21 h_23 h_24 h_25 h_96 h_115 h_116 h_726 h_731 h_732 h_735 h_736 h_738 h_26 h_711 h_737; omega) | omega, (Int.le_trans (rg_eq hg_e1 h_1).2 (by decide))⟩ ?_
                  refine q_iconst rfl ?_
                  refine q_goto (t := 21) rfl (by decide) ?_
                  refine v_zret rfl rfl (by decide) ?_
                  refine bk_inl ?_
                  refine v_if_eq_f (t := 136) rfl (by decide) (by decide) ?_
                  refine q_aload_n rfl rfl ?_
                  have h_744 := wv_bd (b := F) (r := (nx F e1 a)) (l := (ln F e1 (nx F e1 a))) (fun j h1 h2 => ⟨(ln_in (e := e1) (a := (nx F e1 a)) h1 h2).1, (ln_in (e := e1) (a := (nx F e1 a)) h1 h2).2.1⟩)
                  have h_745 := wr8_1 (b := F) (r := (nx F e1 a)) (l := (ln F e1 (nx F e1 a))) (by omega) (fun j h1 h2 => ⟨(ln_in (e := e1) (a := (nx F e1 a)) h1 h2).1, (ln_in (e := e1) (a := (nx F e1 a)) h1 h2).2.1⟩) (by omega)
                  refine v_cv rfl rfl rfl rfl (by decide) ⟨⟨rfl, rfl⟩, by decide, rfl⟩ (Nat.le_of_ble_eq_true rfl) (Nat.le_of_ble_eq_true rfl) (f_157 (e1 := e1) (a9 := (nx F e1 a)) (B := H) (r8 := (nx F e1 a)) (L8 := (ln F e1 (nx F e1 a))) (W8 := (wv F (nx F e1 a) (ln F e1 (nx F e1 a)))) hI_740 ((hid kn_743)) ((h_742)) (fun j => ((hF_741 43 j (fun h => absurd h.1 (nn rfl))).trans (hFc 43 j (fun q => q.elim (fun h => absurd h.1 (nn rfl)) (fun q => q.elim (fun h => absurd h.1 (nn rfl)) (fun q => q.elim (fun h => absurd h.1 (nn rfl)) (fun q => q.elim (fun h => absurd h.1 (nn rfl)) (fun q => q.elim (fun h => absurd h.1 (nn rfl)) (fun q => q.elim (fun h => absurd h.1 (nn rfl)) (fun q => q.elim (fun h => absurd h.1 (nn rfl)) (fun q => q.elim (fun h => absurd h (nn rfl)) (fun q => q.elim (fun h => absurd h (nn rfl)) (fun h => absurd h (nn rfl))))))))))))).trans (hH j)) ((nx_tr hU (by first | (clear h_1 h_2 h_3 h_4 h_5 h_6 h_7 h_8 h_9 h_10 h_11 h_12 h_13 h_14 h_15 h_16 h_17 h_18 h_19 h_20 h_21 h_23 h_25 h_115 h_116 h_726 h_731 h_732 h_735 h_736 h_738 h_711; omega) | omega) (by first | (clear h_3 h_4 h_5 h_6 h_7 h_8 h_9 h_10 h_11 h_12 h_13 h_14 h_15 h_16 h_17 h_18 h_19 h_20 h_21 h_23 h_25 h_115 h_116 h_726 h_731 h_732 h_735 h_736 h_738 h_711; omega) | omega)).trans ((nx_z (by omega)))) ((ln_tr hU (by first | (clear h_1 h_2 h_3 h_4 h_5 h_6 h_7 h_8 h_9 h_10 h_11 h_12 h_13 h_14 h_15 h_16 h_17 h_18 h_19 h_20 h_21 h_23 h_25 h_115 h_116 h_726 h_731 h_732 h_735 h_736 h_738 h_711; omega) | omega) (by first | (clear h_3 h_4 h_5 h_6 h_7 h_8 h_9 h_10 h_11 h_12 h_13 h_14 h_15 h_16 h_17 h_18 h_19 h_20 h_21 h_23 h_25 h_115 h_116 h_726 h_731 h_732 h_735 h_736 h_738 h_711; omega) | omega)).trans (rfl)) ((wv_tr hU (by first | (clear h_1 h_2 h_3 h_4 h_5 h_6 h_7 h_8 h_9 h_10 h_11 h_12 h_13 h_14 h_15 h_16 h_17 h_18 h_19 h_20 h_21 h_23 h_25 h_115 h_116 h_726 h_731 h_732 h_735 h_736 h_738 h_744 h_745 h_711; omega) | omega) (by first | (clear h_3 h_4 h_5 h_6 h_7 h_8 h_9 h_10 h_11 h_12 h_13 h_14 h_15 h_16 h_17 h_18 h_19 h_20 h_21 h_23 h_25 h_115 h_116 h_726 h_731 h_732 h_735 h_736 h_738 h_744 h_745 h_711; omega) | omega) (fun j h1 h2 => ⟨(ln_in (e := e1) (a := (nx F e1 a)) h1 h2).1, (ln_in (e := e1) (a := (nx F e1 a)) h1 h2).2.1⟩)).trans (rfl)) (fun c_746 hI_747 hF_748 hz_749 => ?_))
                  refine bk_inl ?_
                  refine q_istore_n rfl (by decide) ?_
                  refine q_iload_n rfl rfl ?_
                  refine q_call rfl rfl rfl rfl ?_
                  refine q_iload_n rfl rfl ?_
                  refine q_ldc_s rfl rfl rfl (by decide) ?_
                  refine q_call rfl rfl rfl rfl (s_158_16 ?_)
                  refine bk_inl ?_
                  refine v_ic_eq_f (t := 36) rfl (by decide) ⟨by first | (clear h_1 h_2 h_3 h_4 h_5 h_6 h_7 h_8 h_9 h_10 h_11 h_12 h_13 h_14 h_15 h_16 h_17 h_18 h_19 h_20 h_21 h_23 h_24 h_25 h_96 h_115 h_116 h_726 h_731 h_732 h_735 h_736 h_738 h_26 h_711 h_737; omega) | omega, ⟨by first | (clear h_1 h_2 h_3 h_4 h_5 h_6 h_7 h_8 h_9 h_10 h_11 h_12 h_13 h_14 h_15 h_16 h_17 h_18 h_19 h_20 h_21 h_23 h_24 h_25 h_96 h_115 h_116 h_726 h_731 h_732 h_735 h_736 h_738 h_26 h_711 h_737; omega) | omega, by first | (clear h_1 h_2 h_3 h_4 h_5 h_6 h_7 h_8 h_9 h_10 h_11 h_12 h_13 h_14 h_15 h_16 h_17 h_18 h_19 h_20 h_21 h_23 h_24 h_25 h_96 h_115 h_116 h_726 h_731 h_732 h_735 h_736 h_738 h_26 h_711 h_737; omega) | omega⟩, by decide, by decide⟩ ?_
                  refine q_iload_n rfl rfl ?_
                  refine q_ldc_s rfl rfl rfl (by decide) ?_
                  refine q_call rfl rfl rfl rfl (s_158_17 ?_)
                  refine bk_inl ?_
                  refine v_ic_eq_t (t := 36) rfl (by decide) (by first | (clear h_1 h_2 h_3 h_4 h_5 h_6 h_7 h_8 h_9 h_10 h_11 h_12 h_13 h_14 h_15 h_16 h_17 h_18 h_19 h_20 h_21 h_23 h_24 h_25 h_96 h_115 h_116 h_726 h_731 h_732 h_735 h_736 h_738 h_26 h_711 h_737; omega) | omega) ?_
                  refine q_iconst rfl ?_
                  refine q_goto (t := 41) rfl (by decide) ?_
                  refine v_zret rfl rfl (by decide) ?_
                  refine bk_inl ?_
                  refine v_if_ne_t (t := 82) rfl (by decide) (by decide) ?_
                  refine q_iload_n rfl rfl ?_
                  refine v_bip rfl (by decide) ?_
                  refine v_ic_eq_f (t := 96) rfl (by decide) ⟨by first | (clear h_1 h_2 h_3 h_4 h_5 h_6 h_7 h_8 h_9 h_10 h_11 h_12 h_13 h_14 h_15 h_16 h_17 h_18 h_19 h_20 h_21 h_23 h_24 h_25 h_96 h_115 h_116 h_726 h_731 h_732 h_735 h_736 h_738 h_744 h_745 h_26 h_711 h_737; omega) | omega, ⟨(Int.le_trans (by decide) hv.1), (Int.le_trans hv.2 (by decide))⟩, by decide, by decide⟩ ?_
                  refine q_aload_n rfl rfl ?_
                  refine q_iload_n rfl rfl ?_
                  refine v_cv rfl rfl rfl rfl (by decide) ⟨⟨rfl, rfl⟩, by decide, rfl⟩ (Nat.le_of_ble_eq_true rfl) (Nat.le_of_ble_eq_true rfl) ?_
                  refine q_iload_n rfl rfl ?_
                  refine q_ldc_s rfl rfl rfl (by decide) ?_
                  refine q_call rfl rfl rfl rfl (s_158_16 ?_)
                  refine bk_inl ?_
                  refine v_ic_ne_t (t := 26) rfl (by decide) ⟨by first | (clear h_1 h_2 h_3 h_4 h_5 h_6 h_7 h_8 h_9 h_10 h_11 h_12 h_13 h_14 h_15 h_16 h_17 h_18 h_19 h_20 h_21 h_23 h_24 h_25 h_96 h_115 h_116 h_726 h_731 h_732 h_735 h_736 h_738 h_26 h_711 h_737; omega) | omega, ⟨by first | (clear h_1 h_2 h_3 h_4 h_5 h_6 h_7 h_8 h_9 h_10 h_11 h_12 h_13 h_14 h_15 h_16 h_17 h_18 h_19 h_20 h_21 h_23 h_24 h_25 h_96 h_115 h_116 h_726 h_731 h_732 h_735 h_736 h_738 h_26 h_711 h_737; omega) | omega, by first | (clear h_1 h_2 h_3 h_4 h_5 h_6 h_7 h_8 h_9 h_10 h_11 h_12 h_13 h_14 h_15 h_16 h_17 h_18 h_19 h_20 h_21 h_23 h_24 h_25 h_96 h_115 h_116 h_726 h_731 h_732 h_735 h_736 h_738 h_26 h_711 h_737; omega) | omega⟩, by decide, by decide⟩ ?_
                  refine q_iload_n rfl rfl ?_
                  refine q_ldc_s rfl rfl rfl (by decide) ?_
                  refine q_call rfl rfl rfl rfl (s_158_17 ?_)
                  refine bk_inl ?_
                  refine v_ic_ne_f (t := 51) rfl (by decide) (by first | (clear h_1 h_2 h_3 h_4 h_5 h_6 h_7 h_8 h_9 h_10 h_11 h_12 h_13 h_14 h_15 h_16 h_17 h_18 h_19 h_20 h_21 h_23 h_24 h_25 h_96 h_115 h_116 h_726 h_731 h_732 h_735 h_736 h_738 h_26 h_711 h_737; omega) | omega) ?_
                  refine q_aload_n rfl rfl ?_
                  have kn_750 : Hid (c_739 41 17 = st) := (hF_741 41 17 (fun h => absurd h.2 (ni rfl))).trans (hr_st)
                  have kn_751 : Hid (c_746 41 17 = st) := (hF_748 41 17 (fun h => absurd h.2 (ni rfl))).trans (hid kn_750)
                  refine v_gi (z := 17) (v := st) rfl rfl rfl (by decide) rfl rfl (hid kn_751) ?_
                  refine q_iconst rfl ?_
                  refine v_ic_ne_t (t := 47) rfl (by decide) ⟨by first | (clear h_1 h_2 h_3 h_4 h_5 h_6 h_7 h_8 h_9 h_10 h_11 h_12 h_15 h_16 h_17 h_18 h_19 h_20 h_21 h_23 h_24 h_25 h_96 h_115 h_116 h_726 h_731 h_732 h_735 h_736 h_738 h_744 h_745 h_26 h_737; omega) | omega, ⟨(Int.le_trans (by decide) hst.1), (Int.le_trans hst.2 (by decide))⟩, by decide, by decide⟩ ?_
                  refine q_iconst rfl ?_
                  refine q_goto (t := 73) rfl (by decide) ?_
                  refine v_zret rfl rfl (by decide) ?_
                  refine bk_inl ?_
                  refine v_if_eq_t (t := 105) rfl (by decide) (by decide) ?_
                  refine q_aload_n rfl rfl ?_
                  refine v_cv rfl rfl rfl rfl (by decide) ⟨⟨rfl, rfl⟩, by decide, rfl⟩ (Nat.le_of_ble_eq_true rfl) (Nat.le_of_ble_eq_true rfl) ?_
                  refine q_aload_n rfl rfl ?_
                  have kn_752 : Hid (c_739 41 5 = (-1)) := (hF_741 41 5 (fun h => absurd h.2 (ni rfl))).trans (hc_1)
                  have kn_753 : Hid (c_746 41 5 = (-1)) := (hF_748 41 5 (fun h => absurd h.2 (ni rfl))).trans (hid kn_752)
                  refine v_gi (z := 5) (v := (-1)) rfl rfl rfl (by decide) rfl rfl (hid kn_753) ?_
                  refine q_iconst rfl ?_
                  refine v_ic_ne_f (t := 12) rfl (by decide) (by decide) ?_
                  refine q_iconst rfl ?_
                  refine q_goto (t := 13) rfl (by decide) ?_
                  refine v_zret rfl rfl (by decide) ?_
                  refine bk_inl ?_
                  refine v_if_ne_t (t := 115) rfl (by decide) (by decide) ?_
                  refine q_aload_n rfl rfl ?_
                  have kn_754 : Hid (c_746 41 3 = e1) := (hF_748 41 3 (fun h => absurd h.2 (ni rfl))).trans (hid kn_743)
                  refine v_cv rfl rfl rfl rfl (by decide) ⟨⟨rfl, rfl⟩, by decide, rfl⟩ (Nat.le_of_ble_eq_true rfl) (Nat.le_of_ble_eq_true rfl) (f_159 (e1 := e1) (a9 := (nx F e1 a)) (B := H) (L8 := (ln F e1 (nx F e1 a))) hI_747 ((hid kn_754)) ((hz_749)) (fun j => ((hF_748 43 j (fun h => absurd h.1 (nn rfl))).trans ((hF_741 43 j (fun h => absurd h.1 (nn rfl))).trans (hFc 43 j (fun q => q.elim (fun h => absurd h.1 (nn rfl)) (fun q => q.elim (fun h => absurd h.1 (nn rfl)) (fun q => q.elim (fun h => absurd h.1 (nn rfl)) (fun q => q.elim (fun h => absurd h.1 (nn rfl)) (fun q => q.elim (fun h => absurd h.1 (nn rfl)) (fun q => q.elim (fun h => absurd h.1 (nn rfl)) (fun q => q.elim (fun h => absurd h.1 (nn rfl)) (fun q => q.elim (fun h => absurd h (nn rfl)) (fun q => q.elim (fun h => absurd h (nn rfl)) (fun h => absurd h (nn rfl)))))))))))))).trans (hH j)) ((ln_tr hU (by first | (clear h_1 h_2 h_3 h_4 h_5 h_6 h_7 h_8 h_9 h_10 h_11 h_12 h_13 h_14 h_15 h_16 h_17 h_18 h_19 h_20 h_21 h_23 h_25 h_115 h_116 h_726 h_731 h_732 h_735 h_736 h_738 h_744 h_745 h_711; omega) | omega) (by first | (clear h_3 h_4 h_5 h_6 h_7 h_8 h_9 h_10 h_11 h_12 h_13 h_14 h_15 h_16 h_17 h_18 h_19 h_20 h_21 h_23 h_25 h_115 h_116 h_726 h_731 h_732 h_735 h_736 h_738 h_744 h_745 h_711; omega) | omega)).trans (rfl)) (fun c_755 hI_756 hF_757 hz_758 => ?_))
                  refine bk_inl ?_
                  refine q_aload_n rfl rfl ?_
                  refine q_iload_n rfl rfl ?_
                  have hw_759 : (wv F (nx F e1 a) (ln F e1 (nx F e1 a))) = 20594117 := by omega
                  rw [hw_759]
                  have kn_760 : Hid (c_112 1 1 = e1) := (hF_114 1 1 (fun q => q.elim (fun h => absurd h.2 (ni rfl)) (fun q => q.elim (fun h => absurd h.2 (ni rfl)) (fun h => absurd h.2 (ni rfl))))).trans (hid kn_91)
                  have kn_761 : Hid (c_755 41 3 = e1) := (hF_757 41 3 (fun h => absurd h.2 (ni rfl))).trans (hid kn_754)
                  have kn_762 : Hid (c_739 41 16 = jr) := (hF_741 41 16 (fun h => absurd h.2 (ni rfl))).trans (hr_jr)
                  have kn_763 : Hid (c_746 41 16 = jr) := (hF_748 41 16 (fun h => absurd h.2 (ni rfl))).trans (hid kn_762)
                  have kn_764 : Hid (c_755 41 16 = jr) := (hF_757 41 16 (fun h => absurd h.2 (ni rfl))).trans (hid kn_763)
                  have kn_765 : Hid (c_755 41 17 = st) := (hF_757 41 17 (fun h => absurd h.2 (ni rfl))).trans (hid kn_751)
                  have kn_766 : Hid (c_739 41 18 = si) := (hF_741 41 18 (fun h => absurd h.2 (ni rfl))).trans (hr_si)
                  have kn_767 : Hid (c_746 41 18 = si) := (hF_748 41 18 (fun h => absurd h.2 (ni rfl))).trans (hid kn_766)
                  have kn_768 : Hid (c_755 41 18 = si) := (hF_757 41 18 (fun h => absurd h.2 (ni rfl))).trans (hid kn_767)
                  have kn_769 : Hid (c_27 A 3 = du) := (hF_29 A 3 (fun h => absurd h.1 (np0 hA rfl))).trans (hg_du)
                  have kn_770 : Hid (c_87 A 3 = du) := (hF_89 A 3 (fun h => absurd h.1 (np0 hA rfl))).trans (hid kn_769)
                  have kn_771 : Hid (c_112 A 3 = du) := (hF_114 A 3 (fun q => q.elim (fun h => absurd h.1 (np0 hA rfl)) (fun q => q.elim (fun h => absurd h.1 (np0 hA rfl)) (fun h => absurd h.1 (np0 hA rfl))))).trans (hid kn_770)
                  have kn_772 : Hid (c_739 41 19 = du) := (hF_741 41 19 (fun h => absurd h.2 (ni rfl))).trans (hr_du)
                  have kn_773 : Hid (c_746 41 19 = du) := (hF_748 41 19 (fun h => absurd h.2 (ni rfl))).trans (hid kn_772)
                  have kn_774 : Hid (c_755 41 19 = du) := (hF_757 41 19 (fun h => absurd h.2 (ni rfl))).trans (hid kn_773)
                  have h_775 : c_112 1 4 = 0 := (hz_118)
                  have h_776 : c_112 1 2 = (ln F e1 (nx F e1 a)) := (hz_117)
                  have h_777 : c_112 1 5 = (-1) := (hz_119)
                  have kn_778 : Hid (c_755 41 5 = (-1)) := (hF_757 41 5 (fun h => absurd h.2 (ni rfl))).trans (hid kn_753)
                  have h_779 : c_755 41 5 = (-1) := (hid kn_778)
                  have h_780 : c_755 41 4 = (ln F e1 (nx F e1 a)) := (hz_758)
                  have h_781 := ir_41_6 hI2
                  have kn_782 : Hid (c_739 41 6 = c2 41 6) := hF_741 41 6 (fun h => absurd h.2 (ni rfl))
                  have kn_783 : Hid (c_746 41 6 = c2 41 6) := (hF_748 41 6 (fun h => absurd h.2 (ni rfl))).trans (hid kn_782)
                  have kn_784 : Hid (c_755 41 6 = c2 41 6) := (hF_757 41 6 (fun h => absurd h.2 (ni rfl))).trans (hid kn_783)
                  have h_785 : c_755 41 6 = c2 41 6 := (hid kn_784)
                  have hA_786 : Ae (4 * jr) (c_112 (A + 1)) (c_755 44) := ae_fr hrl0 (fun j => (hF_114 (A + 1) j (fun q => q.elim (fun h => absurd h.1 (np hA rfl rfl)) (fun q => q.elim (fun h => absurd h.1 (np hA rfl rfl)) (fun h => absurd h.1 (np hA rfl rfl))))).trans ((hF_89 (A + 1) j (fun h => absurd h.1 (np hA rfl rfl))).trans (hF_29 (A + 1) j (fun h => absurd h.1 (np hA rfl rfl))))) (fun j => (hF_757 44 j (fun h => absurd h.1 (nn rfl))).trans ((hF_748 44 j (fun h => absurd h.1 (nn rfl))).trans (hF_741 44 j (fun h => absurd h.1 (nn rfl)))))
                  have hA_787 : Ae (3 * st) (c_112 (A + 2)) (c_755 45) := ae_fr hrl1 (fun j => (hF_114 (A + 2) j (fun q => q.elim (fun h => absurd h.1 (np hA rfl rfl)) (fun q => q.elim (fun h => absurd h.1 (np hA rfl rfl)) (fun h => absurd h.1 (np hA rfl rfl))))).trans ((hF_89 (A + 2) j (fun h => absurd h.1 (np hA rfl rfl))).trans (hF_29 (A + 2) j (fun h => absurd h.1 (np hA rfl rfl))))) (fun j => (hF_757 45 j (fun h => absurd h.1 (nn rfl))).trans ((hF_748 45 j (fun h => absurd h.1 (nn rfl))).trans (hF_741 45 j (fun h => absurd h.1 (nn rfl)))))
                  have hA_788 : Ae si (c_112 (A + 3)) (c_755 46) := ae_fr hrl2 (fun j => (hF_114 (A + 3) j (fun q => q.elim (fun h => absurd h.1 (np hA rfl rfl)) (fun q => q.elim (fun h => absurd h.1 (np hA rfl rfl)) (fun h => absurd h.1 (np hA rfl rfl))))).trans ((hF_89 (A + 3) j (fun h => absurd h.1 (np hA rfl rfl))).trans (hF_29 (A + 3) j (fun h => absurd h.1 (np hA rfl rfl))))) (fun j => (hF_757 46 j (fun h => absurd h.1 (nn rfl))).trans ((hF_748 46 j (fun h => absurd h.1 (nn rfl))).trans (hF_741 46 j (fun h => absurd h.1 (nn rfl)))))
                  refine v_cv rfl rfl rfl rfl (by decide) ⟨⟨rfl, rfl⟩, by decide, rfl⟩ (Nat.le_of_ble_eq_true rfl) (Nat.le_of_ble_eq_true rfl) (L_33a_1 (m := c_112) (e1 := e1) (jr := jr) (st := st) (si := si) (du := du) (F := F) (H := H) hI_756 hI_113 hI_723 hA (by first | (clear h_1 h_2 h_3 h_4 h_5 h_6 h_7 h_8 h_9 h_10 h_11 h_12 h_15 h_16 h_17 h_18 h_19 h_20 h_21 h_23 h_24 h_25 h_96 h_115 h_116 h_726 h_731 h_732 h_735 h_736 h_738 h_744 h_745 h_26 h_737; omega) | omega) ((hid kn_760)) ((hid kn_761)) ((hid kn_715)) ((hid kn_764)) ((hid kn_710)) ((hid kn_765)) ((hid kn_720)) ((hid kn_768)) ((hid kn_771)) ((hid kn_774)) (fun j => ((hF_114 2 j (fun q => q.elim (fun h => absurd h.1 (nn rfl)) (fun q => q.elim (fun h => absurd h.1 (nn rfl)) (fun h => absurd h.1 (nn rfl))))).trans ((hF_89 2 j (fun h => absurd h.1 (nn rfl))).trans ((hF_29 2 j (fun h => absurd h.1 (nn rfl))).trans (hFm 2 j (fun q => q.elim (fun h => absurd h.1 (nn rfl)) (fun q => q.elim (fun h => absurd h.1 (nn rfl)) (fun q => q.elim (fun h => absurd h.1 (nn rfl)) (fun q => q.elim (fun h => absurd h.1 (pn0 hA rfl)) (fun q => q.elim (fun h => absurd h.1 (pn0 hA rfl)) (fun q => q.elim (fun h => absurd h.1 (pn0 hA rfl)) (fun q => q.elim (fun h => absurd h.1 (pn0 hA rfl)) (fun q => q.elim (fun h => absurd h (pn hA rfl rfl)) (fun q => q.elim (fun h => absurd h (pn hA rfl rfl)) (fun q => q.elim (fun h => absurd h (pn hA rfl rfl)) (fun q => q.elim (fun h => absurd h.1 (pn0 hA rfl)) (fun q => q.elim (fun h => absurd h.1 (pn0 hA rfl)) (fun q => q.elim (fun h => absurd h (pn hA rfl rfl)) (fun h => absurd h.1 (pn hA rfl rfl))))))))))))))))))).trans (hF j)) (fun j => ((hF_757 43 j (fun h => absurd h.1 (nn rfl))).trans ((hF_748 43 j (fun h => absurd h.1 (nn rfl))).trans ((hF_741 43 j (fun h => absurd h.1 (nn rfl))).trans (hFc 43 j (fun q => q.elim (fun h => absurd h.1 (nn rfl)) (fun q => q.elim (fun h => absurd h.1 (nn rfl)) (fun q => q.elim (fun h => absurd h.1 (nn rfl)) (fun q => q.elim (fun h => absurd h.1 (nn rfl)) (fun q => q.elim (fun h => absurd h.1 (nn rfl)) (fun q => q.elim (fun h => absurd h.1 (nn rfl)) (fun q => q.elim (fun h => absurd h.1 (nn rfl)) (fun q => q.elim (fun h => absurd h (nn rfl)) (fun q => q.elim (fun h => absurd h (nn rfl)) (fun h => absurd h (nn rfl))))))))))))))).trans (hH j)) hU (rt_i1 ⟨by first | (clear h_1 h_2 h_3 h_4 h_5 h_6 h_7 h_8 h_9 h_10 h_11 h_12 h_13 h_14 h_15 h_16 h_17 h_18 h_19 h_20 h_21 h_23 h_24 h_25 h_96 h_115 h_116 h_726 h_731 h_732 h_735 h_736 h_738 h_744 h_745 h_781 h_26 h_711 h_737; omega) | omega, by first | (clear h_1 h_2 h_3 h_4 h_5 h_6 h_7 h_8 h_9 h_10 h_11 h_12 h_13 h_14 h_15 h_16 h_17 h_18 h_19 h_20 h_21 h_23 h_24 h_25 h_96 h_115 h_116 h_726 h_731 h_732 h_735 h_736 h_738 h_744 h_745 h_781 h_26 h_711 h_737; omega) | omega, by first | (clear h_1 h_2 h_3 h_4 h_5 h_6 h_7 h_8 h_9 h_10 h_11 h_12 h_13 h_14 h_15 h_16 h_17 h_18 h_19 h_20 h_21 h_23 h_24 h_25 h_96 h_115 h_116 h_726 h_731 h_732 h_735 h_736 h_738 h_744 h_745 h_781 h_26 h_711 h_737; omega) | omega, by first | (clear h_1 h_2 h_3 h_4 h_5 h_6 h_7 h_8 h_9 h_10 h_11 h_12 h_13 h_14 h_15 h_16 h_17 h_18 h_19 h_20 h_21 h_23 h_24 h_25 h_96 h_115 h_116 h_726 h_731 h_732 h_735 h_736 h_738 h_744 h_745 h_781 h_26 h_711 h_737; omega) | omega⟩) (ae_le hA_786 (by omega)) (ae_le hA_787 (by omega)) (ae_le hA_788 (by omega)) hG_725 (fun c_789 hI_790 hF_791 hR_793 h_794 h_795 h_796 h_797 hA_798 hA_799 hA_800 => ?_))
                  refine bk_inl ?_
                  have h_801 := ir_41_16 hI_790
                  have h_802 := ir_p0_0 hI_723 hA
                  have h_803 := ir_41_17 hI_790
                  have h_804 := ir_p0_1 hI_723 hA
                  have h_805 := ir_41_18 hI_790
                  have h_806 := ir_p0_2 hI_723 hA
                  have h_807 := ir_41_19 hI_790
                  have h_808 := ir_p0_3 hI_723 hA
                  refine q_aload_n rfl rfl ?_
                  refine v_bip rfl (by decide) ?_
                  have kn_809 : Hid (c_722 1 1 = e1) := (hF_724 1 1 (fun q => q.elim (fun h => absurd h.2 (ni rfl)) (fun q => q.elim (fun h => absurd h.2 (ni rfl)) (fun q => q.elim (fun h => absurd h.2 (ni rfl)) (fun q => q.elim (fun h => absurd h.1 (pn0 hA rfl)) (fun q => q.elim (fun h => absurd h.1 (pn0 hA rfl)) (fun q => q.elim (fun h => absurd h.1 (pn0 hA rfl)) (fun q => q.elim (fun h => absurd h.1 (pn0 hA rfl)) (fun q => q.elim (fun h => absurd h (pn hA rfl rfl)) (fun q => q.elim (fun h => absurd h (pn hA rfl rfl)) (fun h => absurd h (pn hA rfl rfl)))))))))))).trans (hid kn_760)
                  have kn_810 : Hid (c_789 41 3 = e1) := (hF_791 41 3 (fun q => q.elim (fun h => absurd h.2 (ni rfl)) (fun q => q.elim (fun h => absurd h.2 (ni rfl)) (fun q => q.elim (fun h => absurd h.2 (ni rfl)) (fun q => q.elim (fun h => absurd h.2 (ni rfl)) (fun q => q.elim (fun h => absurd h.2 (ni rfl)) (fun q => q.elim (fun h => absurd h.2 (ni rfl)) (fun q => q.elim (fun h => absurd h.2 (ni rfl)) (fun q => q.elim (fun h => absurd h (nn rfl)) (fun q => q.elim (fun h => absurd h (nn rfl)) (fun h => absurd h (nn rfl)))))))))))).trans (hid kn_761)
                  have h_811 := ir_1_2 hI_723
                  refine v_cv rfl rfl rfl rfl (by decide) ⟨⟨rfl, rfl⟩, by decide, rfl⟩ (Nat.le_of_ble_eq_true rfl) (Nat.le_of_ble_eq_true rfl) (L_11_9 (m := c_722) (e1 := e1) (a9 := c_722 1 2) (f0 := c_722 1 4) (F := F) (H := H) hI_790 hI_723 hI_728 ((hid kn_809)) ((hid kn_810)) (rfl) (rfl) (fun j => ((hF_724 2 j (fun q => q.elim (fun h => absurd h.1 (nn rfl)) (fun q => q.elim (fun h => absurd h.1 (nn rfl)) (fun q => q.elim (fun h => absurd h.1 (nn rfl)) (fun q => q.elim (fun h => absurd h.1 (pn0 hA rfl)) (fun q => q.elim (fun h => absurd h.1 (pn0 hA rfl)) (fun q => q.elim (fun h => absurd h.1 (pn0 hA rfl)) (fun q => q.elim (fun h => absurd h.1 (pn0 hA rfl)) (fun q => q.elim (fun h => absurd h (pn hA rfl rfl)) (fun q => q.elim (fun h => absurd h (pn hA rfl rfl)) (fun h => absurd h (pn hA rfl rfl)))))))))))).trans ((hF_114 2 j (fun q => q.elim (fun h => absurd h.1 (nn rfl)) (fun q => q.elim (fun h => absurd h.1 (nn rfl)) (fun h => absurd h.1 (nn rfl))))).trans ((hF_89 2 j (fun h => absurd h.1 (nn rfl))).trans ((hF_29 2 j (fun h => absurd h.1 (nn rfl))).trans (hFm 2 j (fun q => q.elim (fun h => absurd h.1 (nn rfl)) (fun q => q.elim (fun h => absurd h.1 (nn rfl)) (fun q => q.elim (fun h => absurd h.1 (nn rfl)) (fun q => q.elim (fun h => absurd h.1 (pn0 hA rfl)) (fun q => q.elim (fun h => absurd h.1 (pn0 hA rfl)) (fun q => q.elim (fun h => absurd h.1 (pn0 hA rfl)) (fun q => q.elim (fun h => absurd h.1 (pn0 hA rfl)) (fun q => q.elim (fun h => absurd h (pn hA rfl rfl)) (fun q => q.elim (fun h => absurd h (pn hA rfl rfl)) (fun q => q.elim (fun h => absurd h (pn hA rfl rfl)) (fun q => q.elim (fun h => absurd h.1 (pn0 hA rfl)) (fun q => q.elim (fun h => absurd h.1 (pn0 hA rfl)) (fun q => q.elim (fun h => absurd h (pn hA rfl rfl)) (fun h => absurd h.1 (pn hA rfl rfl)))))))))))))))))))).trans (hF j)) (fun j => ((hF_791 43 j (fun q => q.elim (fun h => absurd h.1 (nn rfl)) (fun q => q.elim (fun h => absurd h.1 (nn rfl)) (fun q => q.elim (fun h => absurd h.1 (nn rfl)) (fun q => q.elim (fun h => absurd h.1 (nn rfl)) (fun q => q.elim (fun h => absurd h.1 (nn rfl)) (fun q => q.elim (fun h => absurd h.1 (nn rfl)) (fun q => q.elim (fun h => absurd h.1 (nn rfl)) (fun q => q.elim (fun h => absurd h (nn rfl)) (fun q => q.elim (fun h => absurd h (nn rfl)) (fun h => absurd h (nn rfl)))))))))))).trans ((hF_757 43 j (fun h => absurd h.1 (nn rfl))).trans ((hF_748 43 j (fun h => absurd h.1 (nn rfl))).trans ((hF_741 43 j (fun h => absurd h.1 (nn rfl))).trans (hFc 43 j (fun q => q.elim (fun h => absurd h.1 (nn rfl)) (fun q => q.elim (fun h => absurd h.1 (nn rfl)) (fun q => q.elim (fun h => absurd h.1 (nn rfl)) (fun q => q.elim (fun h => absurd h.1 (nn rfl)) (fun q => q.elim (fun h => absurd h.1 (nn rfl)) (fun q => q.elim (fun h => absurd h.1 (nn rfl)) (fun q => q.elim (fun h => absurd h.1 (nn rfl)) (fun q => q.elim (fun h => absurd h (nn rfl)) (fun q => q.elim (fun h => absurd h (nn rfl)) (fun h => absurd h (nn rfl)))))))))))))))).trans (hH j)) hU hR_793 hG_730 (fun c_812 hI_813 hF_814 hR_816 h_817 h_818 => ?_))
                  refine bk_inl ?_
                  have h_819 := ir_1_2 hI_728
                  refine v_iinc (v := v + 1) rfl rfl (by decide) rfl ?_
                  refine q_goto (t := 44) rfl (by decide) ?_
                  refine Wp_ls [(0, .ref 41), (1, vi a1), (2, vi (v + 1))] (lsub_cons rfl (lsub_cons rfl (lsub_cons rfl lsub_nil))) ?_
                  have h_820 := ir_41_4 hI_813
                  have h_821 := ir_1_5 hI_728
                  have h_822 := ir_41_5 hI_813
                  have h_823 := ir_41_6 hI_813
                  have h_824 := rt_ok hR_816 (by omega)
                  have hro_hR_816 := rt_ok hR_816 (by omega)
                  have kn_825 : Hid (c_727 A 0 = c_722 A 0) := hF_729 A 0 (fun q => q.elim (fun h => absurd h.1 (np0 hA rfl)) (fun q => q.elim (fun h => absurd h.1 (np0 hA rfl)) (fun h => absurd h.1 (np0 hA rfl))))
                  have kn_826 : Hid (c_812 41 16 = c_789 41 16) := hF_814 41 16 (fun q => q.elim (fun h => absurd h.2 (ni rfl)) (fun q => q.elim (fun h => absurd h.2 (ni rfl)) (fun h => absurd h.2 (ni rfl))))
                  have kn_827 : Hid (c_727 A 1 = c_722 A 1) := hF_729 A 1 (fun q => q.elim (fun h => absurd h.1 (np0 hA rfl)) (fun q => q.elim (fun h => absurd h.1 (np0 hA rfl)) (fun h => absurd h.1 (np0 hA rfl))))
                  have kn_828 : Hid (c_812 41 17 = c_789 41 17) := hF_814 41 17 (fun q => q.elim (fun h => absurd h.2 (ni rfl)) (fun q => q.elim (fun h => absurd h.2 (ni rfl)) (fun h => absurd h.2 (ni rfl))))
                  have kn_829 : Hid (c_727 A 2 = c_722 A 2) := hF_729 A 2 (fun q => q.elim (fun h => absurd h.1 (np0 hA rfl)) (fun q => q.elim (fun h => absurd h.1 (np0 hA rfl)) (fun h => absurd h.1 (np0 hA rfl))))
                  have kn_830 : Hid (c_812 41 18 = c_789 41 18) := hF_814 41 18 (fun q => q.elim (fun h => absurd h.2 (ni rfl)) (fun q => q.elim (fun h => absurd h.2 (ni rfl)) (fun h => absurd h.2 (ni rfl))))
                  have kn_831 : Hid (c_727 A 3 = c_722 A 3) := hF_729 A 3 (fun q => q.elim (fun h => absurd h.1 (np0 hA rfl)) (fun q => q.elim (fun h => absurd h.1 (np0 hA rfl)) (fun h => absurd h.1 (np0 hA rfl))))
                  have kn_832 : Hid (c_812 41 19 = c_789 41 19) := hF_814 41 19 (fun q => q.elim (fun h => absurd h.2 (ni rfl)) (fun q => q.elim (fun h => absurd h.2 (ni rfl)) (fun h => absurd h.2 (ni rfl))))
                  have hA_833 : Ae (4 * c_789 41 16) (c_727 (A + 1)) (c_812 44) := ae_fr hA_798 (fun j => hF_729 (A + 1) j (fun q => q.elim (fun h => absurd h.1 (np hA rfl rfl)) (fun q => q.elim (fun h => absurd h.1 (np hA rfl rfl)) (fun h => absurd h.1 (np hA rfl rfl))))) (fun j => hF_814 44 j (fun q => q.elim (fun h => absurd h.1 (nn rfl)) (fun q => q.elim (fun h => absurd h.1 (nn rfl)) (fun h => absurd h.1 (nn rfl)))))
                  have hA_834 : Ae (4 * c_722 A 0) (c_727 (A + 1)) (c_812 44) := ae_le hA_833 (by omega)
                  have hA_835 : Ae (3 * c_789 41 17) (c_727 (A + 2)) (c_812 45) := ae_fr hA_799 (fun j => hF_729 (A + 2) j (fun q => q.elim (fun h => absurd h.1 (np hA rfl rfl)) (fun q => q.elim (fun h => absurd h.1 (np hA rfl rfl)) (fun h => absurd h.1 (np hA rfl rfl))))) (fun j => hF_814 45 j (fun q => q.elim (fun h => absurd h.1 (nn rfl)) (fun q => q.elim (fun h => absurd h.1 (nn rfl)) (fun h => absurd h.1 (nn rfl)))))
                  have hA_836 : Ae (3 * c_722 A 1) (c_727 (A + 2)) (c_812 45) := ae_le hA_835 (by omega)
                  have hA_837 : Ae (c_789 41 18) (c_727 (A + 3)) (c_812 46) := ae_fr hA_800 (fun j => hF_729 (A + 3) j (fun q => q.elim (fun h => absurd h.1 (np hA rfl rfl)) (fun q => q.elim (fun h => absurd h.1 (np hA rfl rfl)) (fun h => absurd h.1 (np hA rfl rfl))))) (fun j => hF_814 46 j (fun q => q.elim (fun h => absurd h.1 (nn rfl)) (fun q => q.elim (fun h => absurd h.1 (nn rfl)) (fun h => absurd h.1 (nn rfl)))))
                  have hA_838 : Ae (c_722 A 2) (c_727 (A + 3)) (c_812 46) := ae_le hA_837 (by omega)
                  exact ih c_812 c_727 (v + 1) (c_727 1 2) (c_722 A 0) (c_722 A 1) (c_722 A 2) (c_722 A 3) hI_813 (fun a j hm => (hF_814 a j (fun q => q.elim (fun h => hm (Or.inl h)) (fun q => q.elim (fun h => hm (Or.inr (Or.inl h))) (fun h => hm (Or.inr (Or.inr (Or.inl h))))))).trans ((hF_791 a j (fun q => q.elim (fun h => hm (Or.inl h)) (fun q => q.elim (fun h => hm (Or.inr (Or.inl h))) (fun q => q.elim (fun h => hm (Or.inr (Or.inr (Or.inl h)))) (fun q => q.elim (fun h => hm (Or.inr (Or.inr (Or.inr (Or.inl h))))) (fun q => q.elim (fun h => hm (Or.inr (Or.inr (Or.inr (Or.inr (Or.inl h)))))) (fun q => q.elim (fun h => hm (Or.inr (Or.inr (Or.inr (Or.inr (Or.inr (Or.inl h))))))) (fun q => q.elim (fun h => hm (Or.inr (Or.inr (Or.inr (Or.inr (Or.inr (Or.inr (Or.inl h)))))))) (fun q => q.elim (fun h => hm (Or.inr (Or.inr (Or.inr (Or.inr (Or.inr (Or.inr (Or.inr (Or.inl h))))))))) (fun q => q.elim (fun h => hm (Or.inr (Or.inr (Or.inr (Or.inr (Or.inr (Or.inr (Or.inr (Or.inr (Or.inl h)))))))))) (fun h => hm (Or.inr (Or.inr (Or.inr (Or.inr (Or.inr (Or.inr (Or.inr (Or.inr (Or.inr h)))))))))))))))))))).trans ((hF_757 a j (fun h => hm (Or.inl h))).trans ((hF_748 a j (fun h => hm (Or.inl h))).trans ((hF_741 a j (fun h => hm (Or.inl h))).trans (hFc a j (fun q => q.elim (fun h => hm (Or.inl h)) (fun q => q.elim (fun h => hm (Or.inr (Or.inl h))) (fun q => q.elim (fun h => hm (Or.inr (Or.inr (Or.inl h)))) (fun q => q.elim (fun h => hm (Or.inr (Or.inr (Or.inr (Or.inl h))))) (fun q => q.elim (fun h => hm (Or.inr (Or.inr (Or.inr (Or.inr (Or.inl h)))))) (fun q => q.elim (fun h => hm (Or.inr (Or.inr (Or.inr (Or.inr (Or.inr (Or.inl h))))))) (fun q => q.elim (fun h => hm (Or.inr (Or.inr (Or.inr (Or.inr (Or.inr (Or.inr (Or.inl h)))))))) (fun q => q.elim (fun h => hm (Or.inr (Or.inr (Or.inr (Or.inr (Or.inr (Or.inr (Or.inr (Or.inl h))))))))) (fun q => q.elim (fun h => hm (Or.inr (Or.inr (Or.inr (Or.inr (Or.inr (Or.inr (Or.inr (Or.inr (Or.inl h)))))))))) (fun h => hm (Or.inr (Or.inr (Or.inr (Or.inr (Or.inr (Or.inr (Or.inr (Or.inr (Or.inr h))))))))))))))))))))))))) hI_728 (fun a j hm => (hF_729 a j (fun q => q.elim (fun h => hm (Or.inl h)) (fun q => q.elim (fun h => hm (Or.inr (Or.inl h))) (fun h => hm (Or.inr (Or.inr (Or.inl h))))))).trans ((hF_724 a j (fun q => q.elim (fun h => hm (Or.inl h)) (fun q => q.elim (fun h => hm (Or.inr (Or.inl h))) (fun q => q.elim (fun h => hm (Or.inr (Or.inr (Or.inl h)))) (fun q => q.elim (fun h => hm (Or.inr (Or.inr (Or.inr (Or.inl h))))) (fun q => q.elim (fun h => hm (Or.inr (Or.inr (Or.inr (Or.inr (Or.inl h)))))) (fun q => q.elim (fun h => hm (Or.inr (Or.inr (Or.inr (Or.inr (Or.inr (Or.inl h))))))) (fun q => q.elim (fun h => hm (Or.inr (Or.inr (Or.inr (Or.inr (Or.inr (Or.inr (Or.inl h)))))))) (fun q => q.elim (fun h => hm (Or.inr (Or.inr (Or.inr (Or.inr (Or.inr (Or.inr (Or.inr (Or.inl h))))))))) (fun q => q.elim (fun h => hm (Or.inr (Or.inr (Or.inr (Or.inr (Or.inr (Or.inr (Or.inr (Or.inr (Or.inl h)))))))))) (fun h => hm (Or.inr (Or.inr (Or.inr (Or.inr (Or.inr (Or.inr (Or.inr (Or.inr (Or.inr (Or.inl h))))))))))))))))))))).trans ((hF_114 a j (fun q => q.elim (fun h => hm (Or.inl h)) (fun q => q.elim (fun h => hm (Or.inr (Or.inl h))) (fun h => hm (Or.inr (Or.inr (Or.inl h))))))).trans ((hF_89 a j (fun h => hm (Or.inl h))).trans ((hF_29 a j (fun h => hm (Or.inl h))).trans (hFm a j (fun q => q.elim (fun h => hm (Or.inl h)) (fun q => q.elim (fun h => hm (Or.inr (Or.inl h))) (fun q => q.elim (fun h => hm (Or.inr (Or.inr (Or.inl h)))) (fun q => q.elim (fun h => hm (Or.inr (Or.inr (Or.inr (Or.inl h))))) (fun q => q.elim (fun h => hm (Or.inr (Or.inr (Or.inr (Or.inr (Or.inl h)))))) (fun q => q.elim (fun h => hm (Or.inr (Or.inr (Or.inr (Or.inr (Or.inr (Or.inl h))))))) (fun q => q.elim (fun h => hm (Or.inr (Or.inr (Or.inr (Or.inr (Or.inr (Or.inr (Or.inl h)))))))) (fun q => q.elim (fun h => hm (Or.inr (Or.inr (Or.inr (Or.inr (Or.inr (Or.inr (Or.inr (Or.inl h))))))))) (fun q => q.elim (fun h => hm (Or.inr (Or.inr (Or.inr (Or.inr (Or.inr (Or.inr (Or.inr (Or.inr (Or.inl h)))))))))) (fun q => q.elim (fun h => hm (Or.inr (Or.inr (Or.inr (Or.inr (Or.inr (Or.inr (Or.inr (Or.inr (Or.inr (Or.inl h))))))))))) (fun q => q.elim (fun h => hm (Or.inr (Or.inr (Or.inr (Or.inr (Or.inr (Or.inr (Or.inr (Or.inr (Or.inr (Or.inr (Or.inl h)))))))))))) (fun q => q.elim (fun h => hm (Or.inr (Or.inr (Or.inr (Or.inr (Or.inr (Or.inr (Or.inr (Or.inr (Or.inr (Or.inr (Or.inr (Or.inl h))))))))))))) (fun q => q.elim (fun h => hm (Or.inr (Or.inr (Or.inr (Or.inr (Or.inr (Or.inr (Or.inr (Or.inr (Or.inr (Or.inr (Or.inr (Or.inr (Or.inl h)))))))))))))) (fun h => hm (Or.inr (Or.inr (Or.inr (Or.inr (Or.inr (Or.inr (Or.inr (Or.inr (Or.inr (Or.inr (Or.inr (Or.inr (Or.inr h))))))))))))))))))))))))))))))))) ⟨by omega, by omega⟩ ⟨by omega, by omega⟩ ⟨by omega, by omega⟩ ⟨by omega, by omega⟩ ⟨by omega, by omega⟩ ⟨by omega, by omega⟩ (rfl) (hro_hR_816.2.2.1) ((hid kn_825)) ((show _ = c_789 41 16 from (hid kn_826)).trans (by omega)) ((hid kn_827)) ((show _ = c_789 41 17 from (hid kn_828)).trans (by omega)) ((hid kn_829)) ((show _ = c_789 41 18 from (hid kn_830)).trans (by omega)) ((hid kn_831)) ((show _ = c_789 41 19 from (hid kn_832)).trans (by omega)) ((show _ = c_727 1 4 from rfl).trans (by omega)) (hro_hR_816.2.1) ((show _ = c_727 1 5 from rfl).trans (by omega)) (ae_le hA_834 (by omega)) (ae_le hA_836 (by omega)) (ae_le hA_838 (by omega)) hG_733 (by omega)
                · skip
                  refine q_iload_n rfl rfl ?_
                  refine v_bip rfl (by decide) ?_
                  refine v_ic_gt_f (t := 85) rfl (by decide) ⟨by first | exact rgp_l hv.1 (by decide) | omega, by first | (clear h_1 h_2 h_3 h_4 h_5 h_6 h_7 h_8 h_9 h_10 h_11 h_12 h_13 h_14 h_15 h_16 h_17 h_18 h_19 h_20 h_21 h_23 h_24 h_25 h_96 h_115 h_116 h_726 h_731 h_26 h_711; omega) | omega, by decide⟩ ?_
                  refine q_aload_n rfl rfl ?_
                  refine v_cv rfl rfl rfl rfl (by decide) ⟨⟨rfl, rfl⟩, by decide, rfl⟩ (Nat.le_of_ble_eq_true rfl) (Nat.le_of_ble_eq_true rfl) ?_
                  refine q_aload_n rfl rfl ?_
                  refine v_cv rfl rfl rfl rfl (by decide) ⟨⟨rfl, rfl⟩, by decide, rfl⟩ (Nat.le_of_ble_eq_true rfl) (Nat.le_of_ble_eq_true rfl) ?_
                  refine q_aload_n rfl rfl ?_
                  refine v_gi (z := 4) (v := c_727 1 4) rfl rfl rfl (by decide) rfl rfl rfl ?_
                  refine v_if_ne_t (t := 11) rfl (by decide) ⟨by first | (clear h_1 h_2 h_3 h_4 h_5 h_6 h_7 h_8 h_9 h_10 h_11 h_12 h_13 h_14 h_15 h_16 h_17 h_18 h_19 h_20 h_21 h_23 h_24 h_25 h_96 h_115 h_116 h_726 h_731 h_26 h_711; omega) | omega, ⟨(Int.le_trans (by decide) h_731.1), (Int.le_trans h_731.2 (by decide))⟩, by decide, by decide⟩ ?_
                  refine q_iconst rfl ?_
                  refine v_zret rfl rfl (by decide) ?_
                  refine bk_inl ?_
                  refine v_if_eq_t (t := 22) rfl (by decide) (by decide) ?_
                  refine q_iconst rfl ?_
                  refine v_zret rfl rfl (by decide) ?_
                  refine bk_inl ?_
                  refine v_if_eq_t (t := 85) rfl (by decide) (by decide) ?_
                  refine q_vret rfl rfl ?_
                  intro hE_839
                  have hW : Wd P Q P P c_727 = Wd P Q P P m9 := (Prod.mk.inj (Prod.mk.inj hE_839).2).1
                  have h_840 := ir_1_4 hJ9
                  have h_841 : m9 1 4 = c_727 1 4 := wd_fv (z := 4) 4 rfl hW rfl rfl rfl rfl (by decide) rfl ⟨(Int.le_trans (by decide) h_731.1), (Int.le_trans h_731.2 (by decide))⟩ ⟨(Int.le_trans (by decide) h_840.1), (Int.le_trans h_840.2 (by decide))⟩
                  have h_842 := ir_1_2 hI_728
                  have h_843 := ir_1_2 hJ9
                  have h_844 : m9 1 2 = c_727 1 2 := wd_fv (z := 2) 2 rfl hW rfl rfl rfl rfl (by decide) rfl ⟨(Int.le_trans (by decide) h_842.1), (Int.le_trans h_842.2 (by decide))⟩ ⟨(Int.le_trans (by decide) h_843.1), (Int.le_trans h_843.2 (by decide))⟩
                  have h_845 := ir_1_5 hI_728
                  have h_846 := ir_1_5 hJ9
                  have h_847 : m9 1 5 = c_727 1 5 := wd_fv (z := 5) 5 rfl hW rfl rfl rfl rfl (by decide) rfl ⟨(Int.le_trans (by decide) h_845.1), (Int.le_trans h_845.2 (by decide))⟩ ⟨(Int.le_trans (by decide) h_846.1), (Int.le_trans h_846.2 (by decide))⟩
                  have h_848 := ir_p0_0 hI_723 hA
                  have kn_849 : Hid (c_727 A 0 = c_722 A 0) := hF_729 A 0 (fun q => q.elim (fun h => absurd h.1 (np0 hA rfl)) (fun q => q.elim (fun h => absurd h.1 (np0 hA rfl)) (fun h => absurd h.1 (np0 hA rfl))))
                  have h_850 := ir_p0_0 hJ9 hA
                  have h_851 : m9 A 0 = c_722 A 0 := wd_fv (z := 0) 0 rfl hW (ck_p0 hA) (ck_p0 hA) rfl rfl (by omega) (hid kn_849) ⟨by first | (clear h_1 h_2 h_3 h_4 h_5 h_6 h_7 h_8 h_9 h_10 h_11 h_12 h_13 h_14 h_15 h_16 h_17 h_18 h_19 h_20 h_21 h_23 h_24 h_25 h_96 h_115 h_116 h_726 h_731 h_840 h_841 h_842 h_843 h_844 h_845 h_846 h_847 h_850 h_26 h_711; omega) | omega, by first | (clear h_1 h_2 h_3 h_4 h_5 h_6 h_7 h_8 h_9 h_10 h_11 h_12 h_13 h_14 h_15 h_16 h_17 h_18 h_19 h_20 h_21 h_23 h_24 h_25 h_96 h_115 h_116 h_726 h_731 h_840 h_841 h_842 h_843 h_844 h_845 h_846 h_847 h_850 h_26 h_711; omega) | omega⟩ ⟨(Int.le_trans (by decide) h_850.1), (Int.le_trans h_850.2 (by decide))⟩
                  have h_852 := ir_p0_1 hI_723 hA
                  have kn_853 : Hid (c_727 A 1 = c_722 A 1) := hF_729 A 1 (fun q => q.elim (fun h => absurd h.1 (np0 hA rfl)) (fun q => q.elim (fun h => absurd h.1 (np0 hA rfl)) (fun h => absurd h.1 (np0 hA rfl))))
                  have h_854 := ir_p0_1 hJ9 hA
                  have h_855 : m9 A 1 = c_722 A 1 := wd_fv (z := 1) 1 rfl hW (ck_p0 hA) (ck_p0 hA) rfl rfl (by omega) (hid kn_853) ⟨by first | (clear h_1 h_2 h_3 h_4 h_5 h_6 h_7 h_8 h_9 h_10 h_11 h_12 h_13 h_14 h_15 h_16 h_17 h_18 h_19 h_20 h_21 h_23 h_24 h_25 h_96 h_115 h_116 h_726 h_731 h_840 h_841 h_842 h_843 h_844 h_845 h_846 h_847 h_848 h_850 h_851 h_854 h_26 h_711; omega) | omega, by first | (clear h_1 h_2 h_3 h_4 h_5 h_6 h_7 h_8 h_9 h_10 h_11 h_12 h_13 h_14 h_15 h_16 h_17 h_18 h_19 h_20 h_21 h_23 h_24 h_25 h_96 h_115 h_116 h_726 h_731 h_840 h_841 h_842 h_843 h_844 h_845 h_846 h_847 h_848 h_850 h_851 h_854 h_26 h_711; omega) | omega⟩ ⟨(Int.le_trans (by decide) h_854.1), (Int.le_trans h_854.2 (by decide))⟩
                  have h_856 := ir_p0_2 hI_723 hA
                  have kn_857 : Hid (c_727 A 2 = c_722 A 2) := hF_729 A 2 (fun q => q.elim (fun h => absurd h.1 (np0 hA rfl)) (fun q => q.elim (fun h => absurd h.1 (np0 hA rfl)) (fun h => absurd h.1 (np0 hA rfl))))
                  have h_858 := ir_p0_2 hJ9 hA
                  have h_859 : m9 A 2 = c_722 A 2 := wd_fv (z := 2) 2 rfl hW (ck_p0 hA) (ck_p0 hA) rfl rfl (by omega) (hid kn_857) ⟨by first | (clear h_1 h_2 h_3 h_4 h_5 h_6 h_7 h_8 h_9 h_10 h_11 h_12 h_13 h_14 h_15 h_16 h_17 h_18 h_19 h_20 h_21 h_23 h_24 h_25 h_96 h_115 h_116 h_726 h_731 h_840 h_841 h_842 h_843 h_844 h_845 h_846 h_847 h_848 h_850 h_851 h_852 h_854 h_855 h_858 h_26 h_711; omega) | omega, by first | (clear h_1 h_2 h_3 h_4 h_5 h_6 h_7 h_8 h_9 h_10 h_11 h_12 h_13 h_14 h_15 h_16 h_17 h_18 h_19 h_20 h_21 h_23 h_24 h_25 h_96 h_115 h_116 h_726 h_731 h_840 h_841 h_842 h_843 h_844 h_845 h_846 h_847 h_848 h_850 h_851 h_852 h_854 h_855 h_858 h_26 h_711; omega) | omega⟩ ⟨(Int.le_trans (by decide) h_858.1), (Int.le_trans h_858.2 (by decide))⟩
                  have h_860 := ir_p0_3 hI_723 hA
                  have kn_861 : Hid (c_727 A 3 = c_722 A 3) := hF_729 A 3 (fun q => q.elim (fun h => absurd h.1 (np0 hA rfl)) (fun q => q.elim (fun h => absurd h.1 (np0 hA rfl)) (fun h => absurd h.1 (np0 hA rfl))))
                  have h_862 := ir_p0_3 hJ9 hA
                  have h_863 : m9 A 3 = c_722 A 3 := wd_fv (z := 3) 3 rfl hW (ck_p0 hA) (ck_p0 hA) rfl rfl (by omega) (hid kn_861) ⟨by first | (clear h_1 h_2 h_3 h_4 h_5 h_6 h_7 h_8 h_9 h_10 h_11 h_12 h_13 h_14 h_15 h_16 h_17 h_18 h_19 h_20 h_21 h_23 h_24 h_25 h_96 h_115 h_116 h_726 h_731 h_840 h_841 h_842 h_843 h_844 h_845 h_846 h_847 h_848 h_850 h_851 h_852 h_854 h_855 h_856 h_858 h_859 h_862 h_26 h_711; omega) | omega, by first | (clear h_1 h_2 h_3 h_4 h_5 h_6 h_7 h_8 h_9 h_10 h_11 h_12 h_13 h_14 h_15 h_16 h_17 h_18 h_19 h_20 h_21 h_23 h_24 h_25 h_96 h_115 h_116 h_726 h_731 h_840 h_841 h_842 h_843 h_844 h_845 h_846 h_847 h_848 h_850 h_851 h_852 h_854 h_855 h_856 h_858 h_859 h_862 h_26 h_711; omega) | omega⟩ ⟨(Int.le_trans (by decide) h_862.1), (Int.le_trans h_862.2 (by decide))⟩
                  refine q_aload_n rfl rfl ?_
                  refine v_cv rfl rfl rfl rfl (by decide) ⟨⟨rfl, rfl⟩, by decide, rfl⟩ (Nat.le_of_ble_eq_true rfl) (Nat.le_of_ble_eq_true rfl) ?_
                  refine q_aload_n rfl rfl ?_
                  refine v_gi (z := 5) (v := (-1)) rfl rfl rfl (by decide) rfl rfl (hc_1) ?_
                  refine q_iconst rfl ?_
                  refine v_ic_ne_f (t := 12) rfl (by decide) (by decide) ?_
                  refine q_iconst rfl ?_
                  refine q_goto (t := 13) rfl (by decide) ?_
                  refine v_zret rfl rfl (by decide) ?_
                  refine bk_inl ?_
                  refine v_if_eq_f (t := 136) rfl (by decide) (by decide) ?_
                  refine q_aload_n rfl rfl ?_
                  refine v_cv rfl rfl rfl rfl (by decide) ⟨⟨rfl, rfl⟩, by decide, rfl⟩ (Nat.le_of_ble_eq_true rfl) (Nat.le_of_ble_eq_true rfl) ?_
                  refine q_aload_n rfl rfl ?_
                  have kn_864 : Hid (c2 41 3 = e1) := (hFc 41 3 (fun q => q.elim (fun h => absurd h.2 (ni rfl)) (fun q => q.elim (fun h => absurd h.2 (ni rfl)) (fun q => q.elim (fun h => absurd h.2 (ni rfl)) (fun q => q.elim (fun h => absurd h.2 (ni rfl)) (fun q => q.elim (fun h => absurd h.2 (ni rfl)) (fun q => q.elim (fun h => absurd h.2 (ni rfl)) (fun q => q.elim (fun h => absurd h.2 (ni rfl)) (fun q => q.elim (fun h => absurd h (nn rfl)) (fun q => q.elim (fun h => absurd h (nn rfl)) (fun h => absurd h (nn rfl)))))))))))).trans (hr_e1)
                  have h_865 : -2147483648 ≤ (H (nx F e1 a)) ∧ (H (nx F e1 a)) ≤ 2147483647 := by rw [← hH (nx F e1 a)]; exact ir_43 hI (nx F e1 a)
                  have h_866 := hU (nx F e1 a) (by omega) (by omega)
                  have h_867 := hb_or (b := H) (e := e1) (r := (nx F e1 a))
                  have h_868 := hb_bd (b := H) (e := e1) (r := (nx F e1 a)) (lo := -2147483648) (hi := 2147483647) ⟨by omega, by omega⟩ (by decide)
                  refine v_cv rfl rfl rfl rfl (by decide) ⟨⟨rfl, rfl⟩, by decide, rfl⟩ (Nat.le_of_ble_eq_true rfl) (Nat.le_of_ble_eq_true rfl) (f_154 (e1 := e1) (a9 := a) (B := H) (r8 := (nx F e1 a)) (r := (hb H e1 (nx F e1 a))) hI2 ((hid kn_864)) ((hr_a)) (fun j => (hFc 43 j (fun q => q.elim (fun h => absurd h.1 (nn rfl)) (fun q => q.elim (fun h => absurd h.1 (nn rfl)) (fun q => q.elim (fun h => absurd h.1 (nn rfl)) (fun q => q.elim (fun h => absurd h.1 (nn rfl)) (fun q => q.elim (fun h => absurd h.1 (nn rfl)) (fun q => q.elim (fun h => absurd h.1 (nn rfl)) (fun q => q.elim (fun h => absurd h.1 (nn rfl)) (fun q => q.elim (fun h => absurd h (nn rfl)) (fun q => q.elim (fun h => absurd h (nn rfl)) (fun h => absurd h (nn rfl)))))))))))).trans (hH j)) ((nx_tr hU (by first | (clear h_1 h_2 h_3 h_4 h_5 h_6 h_7 h_8 h_9 h_10 h_11 h_12 h_13 h_14 h_15 h_16 h_17 h_18 h_19 h_20 h_21 h_23 h_24 h_25 h_96 h_115 h_116 h_726 h_731 h_840 h_841 h_842 h_843 h_844 h_845 h_846 h_847 h_848 h_850 h_851 h_852 h_854 h_855 h_856 h_858 h_859 h_860 h_862 h_863 h_26 h_711; omega) | omega) (by first | (clear h_3 h_4 h_5 h_6 h_7 h_8 h_9 h_10 h_11 h_12 h_13 h_14 h_15 h_16 h_17 h_18 h_19 h_20 h_21 h_23 h_25 h_115 h_116 h_726 h_731 h_840 h_841 h_842 h_843 h_844 h_845 h_846 h_847 h_848 h_850 h_851 h_852 h_854 h_855 h_856 h_858 h_859 h_860 h_862 h_863 h_711; omega) | omega)).trans (rfl)) rfl (fun c_869 hI_870 hF_871 h_872 => ?_))
                  refine bk_inl ?_
                  refine q_pop rfl rfl ?_
                  refine q_aload_n rfl rfl ?_
                  refine v_gi (z := 4) (v := (nx F e1 a)) rfl rfl rfl (by decide) rfl rfl (h_872) ?_
                  refine q_aload_n rfl rfl ?_
                  have kn_873 : Hid (c_869 41 3 = e1) := (hF_871 41 3 (fun h => absurd h.2 (ni rfl))).trans (hid kn_864)
                  refine v_gi (z := 3) (v := e1) rfl rfl rfl (by decide) rfl rfl (hid kn_873) ?_
                  refine v_ic_ge_f (t := 20) rfl (by decide) ⟨by first | (clear h_1 h_2 h_3 h_4 h_5 h_6 h_7 h_8 h_9 h_10 h_11 h_12 h_13 h_14 h_15 h_16 h_17 h_18 h_19 h_20 h_21 h_23 h_25 h_115 h_116 h_726 h_731 h_840 h_841 h_842 h_843 h_844 h_845 h_846 h_847 h_848 h_850 h_851 h_852 h_854 h_855 h_856 h_858 h_859 h_860 h_862 h_863 h_865 h_866 h_868 h_711; omega) | omega, by first | (clear h_1 h_2 h_3 h_4 h_5 h_6 h_7 h_8 h_9 h_10 h_11 h_12 h_13 h_14 h_15 h_16 h_17 h_18 h_19 h_20 h_21 h_23 h_24 h_25 h_96 h_115 h_116 h_726 h_731 h_840 h_841 h_842 h_843 h_844 h_845 h_846 h_847 h_848 h_850 h_851 h_852 h_854 h_855 h_856 h_858 h_859 h_860 h_862 h_863 h_865 h_866 h_868 h_26 h_711 h_867; omega) | omega, (Int.le_trans (rg_eq hg_e1 h_1).2 (by decide))⟩ ?_
                  refine q_iconst rfl ?_
                  refine q_goto (t := 21) rfl (by decide) ?_
                  refine v_zret rfl rfl (by decide) ?_
                  refine bk_inl ?_
                  refine v_if_eq_f (t := 136) rfl (by decide) (by decide) ?_
                  refine q_aload_n rfl rfl ?_
                  have h_874 := wv_bd (b := F) (r := (nx F e1 a)) (l := (ln F e1 (nx F e1 a))) (fun j h1 h2 => ⟨(ln_in (e := e1) (a := (nx F e1 a)) h1 h2).1, (ln_in (e := e1) (a := (nx F e1 a)) h1 h2).2.1⟩)
                  have h_875 := wr8_1 (b := F) (r := (nx F e1 a)) (l := (ln F e1 (nx F e1 a))) (by omega) (fun j h1 h2 => ⟨(ln_in (e := e1) (a := (nx F e1 a)) h1 h2).1, (ln_in (e := e1) (a := (nx F e1 a)) h1 h2).2.1⟩) (by omega)
                  refine v_cv rfl rfl rfl rfl (by decide) ⟨⟨rfl, rfl⟩, by decide, rfl⟩ (Nat.le_of_ble_eq_true rfl) (Nat.le_of_ble_eq_true rfl) (f_157 (e1 := e1) (a9 := (nx F e1 a)) (B := H) (r8 := (nx F e1 a)) (L8 := (ln F e1 (nx F e1 a))) (W8 := (wv F (nx F e1 a) (ln F e1 (nx F e1 a)))) hI_870 ((hid kn_873)) ((h_872)) (fun j => ((hF_871 43 j (fun h => absurd h.1 (nn rfl))).trans (hFc 43 j (fun q => q.elim (fun h => absurd h.1 (nn rfl)) (fun q => q.elim (fun h => absurd h.1 (nn rfl)) (fun q => q.elim (fun h => absurd h.1 (nn rfl)) (fun q => q.elim (fun h => absurd h.1 (nn rfl)) (fun q => q.elim (fun h => absurd h.1 (nn rfl)) (fun q => q.elim (fun h => absurd h.1 (nn rfl)) (fun q => q.elim (fun h => absurd h.1 (nn rfl)) (fun q => q.elim (fun h => absurd h (nn rfl)) (fun q => q.elim (fun h => absurd h (nn rfl)) (fun h => absurd h (nn rfl))))))))))))).trans (hH j)) ((nx_tr hU (by first | (clear h_1 h_2 h_3 h_4 h_5 h_6 h_7 h_8 h_9 h_10 h_11 h_12 h_13 h_14 h_15 h_16 h_17 h_18 h_19 h_20 h_21 h_23 h_25 h_115 h_116 h_726 h_731 h_840 h_841 h_842 h_843 h_844 h_845 h_846 h_847 h_848 h_850 h_851 h_852 h_854 h_855 h_856 h_858 h_859 h_860 h_862 h_863 h_865 h_866 h_868 h_711; omega) | omega) (by first | (clear h_3 h_4 h_5 h_6 h_7 h_8 h_9 h_10 h_11 h_12 h_13 h_14 h_15 h_16 h_17 h_18 h_19 h_20 h_21 h_23 h_25 h_115 h_116 h_726 h_731 h_840 h_841 h_842 h_843 h_844 h_845 h_846 h_847 h_848 h_850 h_851 h_852 h_854 h_855 h_856 h_858 h_859 h_860 h_862 h_863 h_865 h_866 h_868 h_711; omega) | omega)).trans ((nx_z (by omega)))) ((ln_tr hU (by first | (clear h_1 h_2 h_3 h_4 h_5 h_6 h_7 h_8 h_9 h_10 h_11 h_12 h_13 h_14 h_15 h_16 h_17 h_18 h_19 h_20 h_21 h_23 h_25 h_115 h_116 h_726 h_731 h_840 h_841 h_842 h_843 h_844 h_845 h_846 h_847 h_848 h_850 h_851 h_852 h_854 h_855 h_856 h_858 h_859 h_860 h_862 h_863 h_865 h_866 h_868 h_711; omega) | omega) (by first | (clear h_3 h_4 h_5 h_6 h_7 h_8 h_9 h_10 h_11 h_12 h_13 h_14 h_15 h_16 h_17 h_18 h_19 h_20 h_21 h_23 h_25 h_115 h_116 h_726 h_731 h_840 h_841 h_842 h_843 h_844 h_845 h_846 h_847 h_848 h_850 h_851 h_852 h_854 h_855 h_856 h_858 h_859 h_860 h_862 h_863 h_865 h_866 h_868 h_711; omega) | omega)).trans (rfl)) ((wv_tr hU (by first | (clear h_1 h_2 h_3 h_4 h_5 h_6 h_7 h_8 h_9 h_10 h_11 h_12 h_13 h_14 h_15 h_16 h_17 h_18 h_19 h_20 h_21 h_23 h_25 h_115 h_116 h_726 h_731 h_840 h_841 h_842 h_843 h_844 h_845 h_846 h_847 h_848 h_850 h_851 h_852 h_854 h_855 h_856 h_858 h_859 h_860 h_862 h_863 h_865 h_866 h_868 h_874 h_875 h_711; omega) | omega) (by first | (clear h_3 h_4 h_5 h_6 h_7 h_8 h_9 h_10 h_11 h_12 h_13 h_14 h_15 h_16 h_17 h_18 h_19 h_20 h_21 h_23 h_25 h_115 h_116 h_726 h_731 h_840 h_841 h_842 h_843 h_844 h_845 h_846 h_847 h_848 h_850 h_851 h_852 h_854 h_855 h_856 h_858 h_859 h_860 h_862 h_863 h_865 h_866 h_868 h_874 h_875 h_711; omega) | omega) (fun j h1 h2 => ⟨(ln_in (e := e1) (a := (nx F e1 a)) h1 h2).1, (ln_in (e := e1) (a := (nx F e1 a)) h1 h2).2.1⟩)).trans (rfl)) (fun c_876 hI_877 hF_878 hz_879 => ?_))
                  refine bk_inl ?_
                  refine q_istore_n rfl (by decide) ?_
                  refine q_iload_n rfl rfl ?_
                  refine q_call rfl rfl rfl rfl ?_
                  refine q_iload_n rfl rfl ?_
                  refine q_ldc_s rfl rfl rfl (by decide) ?_
                  refine q_call rfl rfl rfl rfl (s_158_16 ?_)
                  refine bk_inl ?_
                  refine v_ic_eq_f (t := 36) rfl (by decide) ⟨by first | (clear h_1 h_2 h_3 h_4 h_5 h_6 h_7 h_8 h_9 h_10 h_11 h_12 h_13 h_14 h_15 h_16 h_17 h_18 h_19 h_20 h_21 h_23 h_24 h_25 h_96 h_115 h_116 h_726 h_731 h_840 h_841 h_842 h_843 h_844 h_845 h_846 h_847 h_848 h_850 h_851 h_852 h_854 h_855 h_856 h_858 h_859 h_860 h_862 h_863 h_865 h_866 h_868 h_26 h_711 h_867; omega) | omega, ⟨by first | (clear h_1 h_2 h_3 h_4 h_5 h_6 h_7 h_8 h_9 h_10 h_11 h_12 h_13 h_14 h_15 h_16 h_17 h_18 h_19 h_20 h_21 h_23 h_24 h_25 h_96 h_115 h_116 h_726 h_731 h_840 h_841 h_842 h_843 h_844 h_845 h_846 h_847 h_848 h_850 h_851 h_852 h_854 h_855 h_856 h_858 h_859 h_860 h_862 h_863 h_865 h_866 h_868 h_26 h_711 h_867; omega) | omega, by first | (clear h_1 h_2 h_3 h_4 h_5 h_6 h_7 h_8 h_9 h_10 h_11 h_12 h_13 h_14 h_15 h_16 h_17 h_18 h_19 h_20 h_21 h_23 h_24 h_25 h_96 h_115 h_116 h_726 h_731 h_840 h_841 h_842 h_843 h_844 h_845 h_846 h_847 h_848 h_850 h_851 h_852 h_854 h_855 h_856 h_858 h_859 h_860 h_862 h_863 h_865 h_866 h_868 h_26 h_711 h_867; omega) | omega⟩, by decide, by decide⟩ ?_
                  refine q_iload_n rfl rfl ?_
                  refine q_ldc_s rfl rfl rfl (by decide) ?_
                  refine q_call rfl rfl rfl rfl (s_158_17 ?_)
                  refine bk_inl ?_
                  refine v_ic_eq_t (t := 36) rfl (by decide) (by first | (clear h_1 h_2 h_3 h_4 h_5 h_6 h_7 h_8 h_9 h_10 h_11 h_12 h_13 h_14 h_15 h_16 h_17 h_18 h_19 h_20 h_21 h_23 h_24 h_25 h_96 h_115 h_116 h_726 h_731 h_840 h_841 h_842 h_843 h_844 h_845 h_846 h_847 h_848 h_850 h_851 h_852 h_854 h_855 h_856 h_858 h_859 h_860 h_862 h_863 h_865 h_866 h_868 h_26 h_711 h_867; omega) | omega) ?_
                  refine q_iconst rfl ?_
                  refine q_goto (t := 41) rfl (by decide) ?_
                  refine v_zret rfl rfl (by decide) ?_
                  refine bk_inl ?_
                  refine v_if_ne_t (t := 82) rfl (by decide) (by decide) ?_
                  refine q_iload_n rfl rfl ?_
                  refine v_bip rfl (by decide) ?_
                  refine v_ic_eq_f (t := 96) rfl (by decide) ⟨by first | (clear h_1 h_2 h_3 h_4 h_5 h_6 h_7 h_8 h_9 h_10 h_11 h_12 h_13 h_14 h_15 h_16 h_17 h_18 h_19 h_20 h_21 h_23 h_24 h_25 h_96 h_115 h_116 h_726 h_731 h_840 h_841 h_842 h_843 h_844 h_845 h_846 h_847 h_848 h_850 h_851 h_852 h_854 h_855 h_856 h_858 h_859 h_860 h_862 h_863 h_865 h_866 h_868 h_874 h_875 h_26 h_711 h_867; omega) | omega, ⟨(Int.le_trans (by decide) hv.1), (Int.le_trans hv.2 (by decide))⟩, by decide, by decide⟩ ?_
                  refine q_aload_n rfl rfl ?_
                  refine q_iload_n rfl rfl ?_
                  refine v_cv rfl rfl rfl rfl (by decide) ⟨⟨rfl, rfl⟩, by decide, rfl⟩ (Nat.le_of_ble_eq_true rfl) (Nat.le_of_ble_eq_true rfl) ?_
                  refine q_iload_n rfl rfl ?_
                  refine q_ldc_s rfl rfl rfl (by decide) ?_
                  refine q_call rfl rfl rfl rfl (s_158_16 ?_)
                  refine bk_inl ?_
                  refine v_ic_ne_t (t := 26) rfl (by decide) ⟨by first | (clear h_1 h_2 h_3 h_4 h_5 h_6 h_7 h_8 h_9 h_10 h_11 h_12 h_13 h_14 h_15 h_16 h_17 h_18 h_19 h_20 h_21 h_23 h_24 h_25 h_96 h_115 h_116 h_726 h_731 h_840 h_841 h_842 h_843 h_844 h_845 h_846 h_847 h_848 h_850 h_851 h_852 h_854 h_855 h_856 h_858 h_859 h_860 h_862 h_863 h_865 h_866 h_868 h_26 h_711 h_867; omega) | omega, ⟨by first | (clear h_1 h_2 h_3 h_4 h_5 h_6 h_7 h_8 h_9 h_10 h_11 h_12 h_13 h_14 h_15 h_16 h_17 h_18 h_19 h_20 h_21 h_23 h_24 h_25 h_96 h_115 h_116 h_726 h_731 h_840 h_841 h_842 h_843 h_844 h_845 h_846 h_847 h_848 h_850 h_851 h_852 h_854 h_855 h_856 h_858 h_859 h_860 h_862 h_863 h_865 h_866 h_868 h_26 h_711 h_867; omega) | omega, by first | (clear h_1 h_2 h_3 h_4 h_5 h_6 h_7 h_8 h_9 h_10 h_11 h_12 h_13 h_14 h_15 h_16 h_17 h_18 h_19 h_20 h_21 h_23 h_24 h_25 h_96 h_115 h_116 h_726 h_731 h_840 h_841 h_842 h_843 h_844 h_845 h_846 h_847 h_848 h_850 h_851 h_852 h_854 h_855 h_856 h_858 h_859 h_860 h_862 h_863 h_865 h_866 h_868 h_26 h_711 h_867; omega) | omega⟩, by decide, by decide⟩ ?_
                  refine q_iload_n rfl rfl ?_
                  refine q_ldc_s rfl rfl rfl (by decide) ?_
                  refine q_call rfl rfl rfl rfl (s_158_17 ?_)
                  refine bk_inl ?_
                  refine v_ic_ne_f (t := 51) rfl (by decide) (by first | (clear h_1 h_2 h_3 h_4 h_5 h_6 h_7 h_8 h_9 h_10 h_11 h_12 h_13 h_14 h_15 h_16 h_17 h_18 h_19 h_20 h_21 h_23 h_24 h_25 h_96 h_115 h_116 h_726 h_731 h_840 h_841 h_842 h_843 h_844 h_845 h_846 h_847 h_848 h_850 h_851 h_852 h_854 h_855 h_856 h_858 h_859 h_860 h_862 h_863 h_865 h_866 h_868 h_26 h_711 h_867; omega) | omega) ?_
                  refine q_aload_n rfl rfl ?_
                  have kn_880 : Hid (c_869 41 17 = st) := (hF_871 41 17 (fun h => absurd h.2 (ni rfl))).trans (hr_st)
                  have kn_881 : Hid (c_876 41 17 = st) := (hF_878 41 17 (fun h => absurd h.2 (ni rfl))).trans (hid kn_880)
                  refine v_gi (z := 17) (v := st) rfl rfl rfl (by decide) rfl rfl (hid kn_881) ?_
                  refine q_iconst rfl ?_
                  refine v_ic_ne_t (t := 47) rfl (by decide) ⟨by first | (clear h_1 h_2 h_3 h_4 h_5 h_6 h_7 h_8 h_9 h_10 h_11 h_12 h_15 h_16 h_17 h_18 h_19 h_20 h_21 h_23 h_24 h_25 h_96 h_115 h_116 h_726 h_731 h_840 h_841 h_842 h_843 h_844 h_845 h_846 h_847 h_848 h_850 h_851 h_852 h_854 h_855 h_856 h_858 h_859 h_860 h_862 h_863 h_865 h_866 h_868 h_874 h_875 h_26 h_867; omega) | omega, ⟨(Int.le_trans (by decide) hst.1), (Int.le_trans hst.2 (by decide))⟩, by decide, by decide⟩ ?_
                  refine q_iconst rfl ?_
                  refine q_goto (t := 73) rfl (by decide) ?_
                  refine v_zret rfl rfl (by decide) ?_
                  refine bk_inl ?_
                  refine v_if_eq_t (t := 105) rfl (by decide) (by decide) ?_
                  refine q_aload_n rfl rfl ?_
                  refine v_cv rfl rfl rfl rfl (by decide) ⟨⟨rfl, rfl⟩, by decide, rfl⟩ (Nat.le_of_ble_eq_true rfl) (Nat.le_of_ble_eq_true rfl) ?_
                  refine q_aload_n rfl rfl ?_
                  have kn_882 : Hid (c_869 41 5 = (-1)) := (hF_871 41 5 (fun h => absurd h.2 (ni rfl))).trans (hc_1)
                  have kn_883 : Hid (c_876 41 5 = (-1)) := (hF_878 41 5 (fun h => absurd h.2 (ni rfl))).trans (hid kn_882)
                  refine v_gi (z := 5) (v := (-1)) rfl rfl rfl (by decide) rfl rfl (hid kn_883) ?_
                  refine q_iconst rfl ?_
                  refine v_ic_ne_f (t := 12) rfl (by decide) (by decide) ?_
                  refine q_iconst rfl ?_
                  refine q_goto (t := 13) rfl (by decide) ?_
                  refine v_zret rfl rfl (by decide) ?_
                  refine bk_inl ?_
                  refine v_if_ne_t (t := 115) rfl (by decide) (by decide) ?_
                  refine q_aload_n rfl rfl ?_
                  have kn_884 : Hid (c_876 41 3 = e1) := (hF_878 41 3 (fun h => absurd h.2 (ni rfl))).trans (hid kn_873)
                  refine v_cv rfl rfl rfl rfl (by decide) ⟨⟨rfl, rfl⟩, by decide, rfl⟩ (Nat.le_of_ble_eq_true rfl) (Nat.le_of_ble_eq_true rfl) (f_159 (e1 := e1) (a9 := (nx F e1 a)) (B := H) (L8 := (ln F e1 (nx F e1 a))) hI_877 ((hid kn_884)) ((hz_879)) (fun j => ((hF_878 43 j (fun h => absurd h.1 (nn rfl))).trans ((hF_871 43 j (fun h => absurd h.1 (nn rfl))).trans (hFc 43 j (fun q => q.elim (fun h => absurd h.1 (nn rfl)) (fun q => q.elim (fun h => absurd h.1 (nn rfl)) (fun q => q.elim (fun h => absurd h.1 (nn rfl)) (fun q => q.elim (fun h => absurd h.1 (nn rfl)) (fun q => q.elim (fun h => absurd h.1 (nn rfl)) (fun q => q.elim (fun h => absurd h.1 (nn rfl)) (fun q => q.elim (fun h => absurd h.1 (nn rfl)) (fun q => q.elim (fun h => absurd h (nn rfl)) (fun q => q.elim (fun h => absurd h (nn rfl)) (fun h => absurd h (nn rfl)))))))))))))).trans (hH j)) ((ln_tr hU (by first | (clear h_1 h_2 h_3 h_4 h_5 h_6 h_7 h_8 h_9 h_10 h_11 h_12 h_13 h_14 h_15 h_16 h_17 h_18 h_19 h_20 h_21 h_23 h_25 h_115 h_116 h_726 h_731 h_840 h_841 h_842 h_843 h_844 h_845 h_846 h_847 h_848 h_850 h_851 h_852 h_854 h_855 h_856 h_858 h_859 h_860 h_862 h_863 h_865 h_866 h_868 h_874 h_875 h_711; omega) | omega) (by first | (clear h_3 h_4 h_5 h_6 h_7 h_8 h_9 h_10 h_11 h_12 h_13 h_14 h_15 h_16 h_17 h_18 h_19 h_20 h_21 h_23 h_25 h_115 h_116 h_726 h_731 h_840 h_841 h_842 h_843 h_844 h_845 h_846 h_847 h_848 h_850 h_851 h_852 h_854 h_855 h_856 h_858 h_859 h_860 h_862 h_863 h_865 h_866 h_868 h_874 h_875 h_711; omega) | omega)).trans (rfl)) (fun c_885 hI_886 hF_887 hz_888 => ?_))
                  refine bk_inl ?_
                  refine q_aload_n rfl rfl ?_
                  refine q_iload_n rfl rfl ?_
                  have hw_889 : (wv F (nx F e1 a) (ln F e1 (nx F e1 a))) = 20594117 := by omega
                  rw [hw_889]
                  have kn_890 : Hid (c_112 1 1 = e1) := (hF_114 1 1 (fun q => q.elim (fun h => absurd h.2 (ni rfl)) (fun q => q.elim (fun h => absurd h.2 (ni rfl)) (fun h => absurd h.2 (ni rfl))))).trans (hid kn_91)
                  have kn_891 : Hid (c_885 41 3 = e1) := (hF_887 41 3 (fun h => absurd h.2 (ni rfl))).trans (hid kn_884)
                  have kn_892 : Hid (c_869 41 16 = jr) := (hF_871 41 16 (fun h => absurd h.2 (ni rfl))).trans (hr_jr)
                  have kn_893 : Hid (c_876 41 16 = jr) := (hF_878 41 16 (fun h => absurd h.2 (ni rfl))).trans (hid kn_892)
                  have kn_894 : Hid (c_885 41 16 = jr) := (hF_887 41 16 (fun h => absurd h.2 (ni rfl))).trans (hid kn_893)
                  have kn_895 : Hid (c_885 41 17 = st) := (hF_887 41 17 (fun h => absurd h.2 (ni rfl))).trans (hid kn_881)
                  have kn_896 : Hid (c_869 41 18 = si) := (hF_871 41 18 (fun h => absurd h.2 (ni rfl))).trans (hr_si)
                  have kn_897 : Hid (c_876 41 18 = si) := (hF_878 41 18 (fun h => absurd h.2 (ni rfl))).trans (hid kn_896)
                  have kn_898 : Hid (c_885 41 18 = si) := (hF_887 41 18 (fun h => absurd h.2 (ni rfl))).trans (hid kn_897)
                  have kn_899 : Hid (c_27 A 3 = du) := (hF_29 A 3 (fun h => absurd h.1 (np0 hA rfl))).trans (hg_du)
                  have kn_900 : Hid (c_87 A 3 = du) := (hF_89 A 3 (fun h => absurd h.1 (np0 hA rfl))).trans (hid kn_899)
                  have kn_901 : Hid (c_112 A 3 = du) := (hF_114 A 3 (fun q => q.elim (fun h => absurd h.1 (np0 hA rfl)) (fun q => q.elim (fun h => absurd h.1 (np0 hA rfl)) (fun h => absurd h.1 (np0 hA rfl))))).trans (hid kn_900)
                  have kn_902 : Hid (c_869 41 19 = du) := (hF_871 41 19 (fun h => absurd h.2 (ni rfl))).trans (hr_du)
                  have kn_903 : Hid (c_876 41 19 = du) := (hF_878 41 19 (fun h => absurd h.2 (ni rfl))).trans (hid kn_902)
                  have kn_904 : Hid (c_885 41 19 = du) := (hF_887 41 19 (fun h => absurd h.2 (ni rfl))).trans (hid kn_903)
                  have h_905 : c_112 1 4 = 0 := (hz_118)
                  have h_906 : c_112 1 2 = (ln F e1 (nx F e1 a)) := (hz_117)
                  have h_907 : c_112 1 5 = (-1) := (hz_119)
                  have kn_908 : Hid (c_885 41 5 = (-1)) := (hF_887 41 5 (fun h => absurd h.2 (ni rfl))).trans (hid kn_883)
                  have h_909 : c_885 41 5 = (-1) := (hid kn_908)
                  have h_910 : c_885 41 4 = (ln F e1 (nx F e1 a)) := (hz_888)
                  have h_911 := ir_41_6 hI2
                  have kn_912 : Hid (c_869 41 6 = c2 41 6) := hF_871 41 6 (fun h => absurd h.2 (ni rfl))
                  have kn_913 : Hid (c_876 41 6 = c2 41 6) := (hF_878 41 6 (fun h => absurd h.2 (ni rfl))).trans (hid kn_912)
                  have kn_914 : Hid (c_885 41 6 = c2 41 6) := (hF_887 41 6 (fun h => absurd h.2 (ni rfl))).trans (hid kn_913)
                  have h_915 : c_885 41 6 = c2 41 6 := (hid kn_914)
                  have hA_916 : Ae (4 * jr) (c_112 (A + 1)) (c_885 44) := ae_fr hrl0 (fun j => (hF_114 (A + 1) j (fun q => q.elim (fun h => absurd h.1 (np hA rfl rfl)) (fun q => q.elim (fun h => absurd h.1 (np hA rfl rfl)) (fun h => absurd h.1 (np hA rfl rfl))))).trans ((hF_89 (A + 1) j (fun h => absurd h.1 (np hA rfl rfl))).trans (hF_29 (A + 1) j (fun h => absurd h.1 (np hA rfl rfl))))) (fun j => (hF_887 44 j (fun h => absurd h.1 (nn rfl))).trans ((hF_878 44 j (fun h => absurd h.1 (nn rfl))).trans (hF_871 44 j (fun h => absurd h.1 (nn rfl)))))
                  have hA_917 : Ae (3 * st) (c_112 (A + 2)) (c_885 45) := ae_fr hrl1 (fun j => (hF_114 (A + 2) j (fun q => q.elim (fun h => absurd h.1 (np hA rfl rfl)) (fun q => q.elim (fun h => absurd h.1 (np hA rfl rfl)) (fun h => absurd h.1 (np hA rfl rfl))))).trans ((hF_89 (A + 2) j (fun h => absurd h.1 (np hA rfl rfl))).trans (hF_29 (A + 2) j (fun h => absurd h.1 (np hA rfl rfl))))) (fun j => (hF_887 45 j (fun h => absurd h.1 (nn rfl))).trans ((hF_878 45 j (fun h => absurd h.1 (nn rfl))).trans (hF_871 45 j (fun h => absurd h.1 (nn rfl)))))
                  have hA_918 : Ae si (c_112 (A + 3)) (c_885 46) := ae_fr hrl2 (fun j => (hF_114 (A + 3) j (fun q => q.elim (fun h => absurd h.1 (np hA rfl rfl)) (fun q => q.elim (fun h => absurd h.1 (np hA rfl rfl)) (fun h => absurd h.1 (np hA rfl rfl))))).trans ((hF_89 (A + 3) j (fun h => absurd h.1 (np hA rfl rfl))).trans (hF_29 (A + 3) j (fun h => absurd h.1 (np hA rfl rfl))))) (fun j => (hF_887 46 j (fun h => absurd h.1 (nn rfl))).trans ((hF_878 46 j (fun h => absurd h.1 (nn rfl))).trans (hF_871 46 j (fun h => absurd h.1 (nn rfl)))))
                  refine v_cv rfl rfl rfl rfl (by decide) ⟨⟨rfl, rfl⟩, by decide, rfl⟩ (Nat.le_of_ble_eq_true rfl) (Nat.le_of_ble_eq_true rfl) (L_33a_1 (m := c_112) (e1 := e1) (jr := jr) (st := st) (si := si) (du := du) (F := F) (H := H) hI_886 hI_113 hI_723 hA (by first | (clear h_1 h_2 h_3 h_4 h_5 h_6 h_7 h_8 h_9 h_10 h_11 h_12 h_15 h_16 h_17 h_18 h_19 h_20 h_21 h_23 h_24 h_25 h_96 h_115 h_116 h_726 h_731 h_840 h_841 h_842 h_843 h_844 h_845 h_846 h_847 h_848 h_850 h_851 h_852 h_854 h_855 h_856 h_858 h_859 h_860 h_862 h_863 h_865 h_866 h_868 h_874 h_875 h_26 h_867; omega) | omega) ((hid kn_890)) ((hid kn_891)) ((hid kn_715)) ((hid kn_894)) ((hid kn_710)) ((hid kn_895)) ((hid kn_720)) ((hid kn_898)) ((hid kn_901)) ((hid kn_904)) (fun j => ((hF_114 2 j (fun q => q.elim (fun h => absurd h.1 (nn rfl)) (fun q => q.elim (fun h => absurd h.1 (nn rfl)) (fun h => absurd h.1 (nn rfl))))).trans ((hF_89 2 j (fun h => absurd h.1 (nn rfl))).trans ((hF_29 2 j (fun h => absurd h.1 (nn rfl))).trans (hFm 2 j (fun q => q.elim (fun h => absurd h.1 (nn rfl)) (fun q => q.elim (fun h => absurd h.1 (nn rfl)) (fun q => q.elim (fun h => absurd h.1 (nn rfl)) (fun q => q.elim (fun h => absurd h.1 (pn0 hA rfl)) (fun q => q.elim (fun h => absurd h.1 (pn0 hA rfl)) (fun q => q.elim (fun h => absurd h.1 (pn0 hA rfl)) (fun q => q.elim (fun h => absurd h.1 (pn0 hA rfl)) (fun q => q.elim (fun h => absurd h (pn hA rfl rfl)) (fun q => q.elim (fun h => absurd h (pn hA rfl rfl)) (fun q => q.elim (fun h => absurd h (pn hA rfl rfl)) (fun q => q.elim (fun h => absurd h.1 (pn0 hA rfl)) (fun q => q.elim (fun h => absurd h.1 (pn0 hA rfl)) (fun q => q.elim (fun h => absurd h (pn hA rfl rfl)) (fun h => absurd h.1 (pn hA rfl rfl))))))))))))))))))).trans (hF j)) (fun j => ((hF_887 43 j (fun h => absurd h.1 (nn rfl))).trans ((hF_878 43 j (fun h => absurd h.1 (nn rfl))).trans ((hF_871 43 j (fun h => absurd h.1 (nn rfl))).trans (hFc 43 j (fun q => q.elim (fun h => absurd h.1 (nn rfl)) (fun q => q.elim (fun h => absurd h.1 (nn rfl)) (fun q => q.elim (fun h => absurd h.1 (nn rfl)) (fun q => q.elim (fun h => absurd h.1 (nn rfl)) (fun q => q.elim (fun h => absurd h.1 (nn rfl)) (fun q => q.elim (fun h => absurd h.1 (nn rfl)) (fun q => q.elim (fun h => absurd h.1 (nn rfl)) (fun q => q.elim (fun h => absurd h (nn rfl)) (fun q => q.elim (fun h => absurd h (nn rfl)) (fun h => absurd h (nn rfl))))))))))))))).trans (hH j)) hU (rt_i1 ⟨by first | (clear h_1 h_2 h_3 h_4 h_5 h_6 h_7 h_8 h_9 h_10 h_11 h_12 h_13 h_14 h_15 h_16 h_17 h_18 h_19 h_20 h_21 h_23 h_24 h_25 h_96 h_115 h_116 h_726 h_731 h_840 h_841 h_842 h_843 h_844 h_845 h_846 h_847 h_848 h_850 h_851 h_852 h_854 h_855 h_856 h_858 h_859 h_860 h_862 h_863 h_865 h_866 h_868 h_874 h_875 h_911 h_26 h_711 h_867; omega) | omega, by first | (clear h_1 h_2 h_3 h_4 h_5 h_6 h_7 h_8 h_9 h_10 h_11 h_12 h_13 h_14 h_15 h_16 h_17 h_18 h_19 h_20 h_21 h_23 h_24 h_25 h_96 h_115 h_116 h_726 h_731 h_840 h_841 h_842 h_843 h_844 h_845 h_846 h_847 h_848 h_850 h_851 h_852 h_854 h_855 h_856 h_858 h_859 h_860 h_862 h_863 h_865 h_866 h_868 h_874 h_875 h_911 h_26 h_711 h_867; omega) | omega, by first | (clear h_1 h_2 h_3 h_4 h_5 h_6 h_7 h_8 h_9 h_10 h_11 h_12 h_13 h_14 h_15 h_16 h_17 h_18 h_19 h_20 h_21 h_23 h_24 h_25 h_96 h_115 h_116 h_726 h_731 h_840 h_841 h_842 h_843 h_844 h_845 h_846 h_847 h_848 h_850 h_851 h_852 h_854 h_855 h_856 h_858 h_859 h_860 h_862 h_863 h_865 h_866 h_868 h_874 h_875 h_911 h_26 h_711 h_867; omega) | omega, by first | (clear h_1 h_2 h_3 h_4 h_5 h_6 h_7 h_8 h_9 h_10 h_11 h_12 h_13 h_14 h_15 h_16 h_17 h_18 h_19 h_20 h_21 h_23 h_24 h_25 h_96 h_115 h_116 h_726 h_731 h_840 h_841 h_842 h_843 h_844 h_845 h_846 h_847 h_848 h_850 h_851 h_852 h_854 h_855 h_856 h_858 h_859 h_860 h_862 h_863 h_865 h_866 h_868 h_874 h_875 h_911 h_26 h_711 h_867; omega) | omega⟩) (ae_le hA_916 (by omega)) (ae_le hA_917 (by omega)) (ae_le hA_918 (by omega)) hG_725 (fun c_919 hI_920 hF_921 hR_923 h_924 h_925 h_926 h_927 hA_928 hA_929 hA_930 => ?_))
                  refine bk_inl ?_
                  have h_931 := ir_41_16 hI_920
                  have h_932 := ir_41_17 hI_920
                  have h_933 := ir_41_18 hI_920
                  have h_934 := ir_41_19 hI_920
                  refine q_aload_n rfl rfl ?_
                  refine v_bip rfl (by decide) ?_
                  have kn_935 : Hid (c_722 1 1 = e1) := (hF_724 1 1 (fun q => q.elim (fun h => absurd h.2 (ni rfl)) (fun q => q.elim (fun h => absurd h.2 (ni rfl)) (fun q => q.elim (fun h => absurd h.2 (ni rfl)) (fun q => q.elim (fun h => absurd h.1 (pn0 hA rfl)) (fun q => q.elim (fun h => absurd h.1 (pn0 hA rfl)) (fun q => q.elim (fun h => absurd h.1 (pn0 hA rfl)) (fun q => q.elim (fun h => absurd h.1 (pn0 hA rfl)) (fun q => q.elim (fun h => absurd h (pn hA rfl rfl)) (fun q => q.elim (fun h => absurd h (pn hA rfl rfl)) (fun h => absurd h (pn hA rfl rfl)))))))))))).trans (hid kn_890)
                  have kn_936 : Hid (c_919 41 3 = e1) := (hF_921 41 3 (fun q => q.elim (fun h => absurd h.2 (ni rfl)) (fun q => q.elim (fun h => absurd h.2 (ni rfl)) (fun q => q.elim (fun h => absurd h.2 (ni rfl)) (fun q => q.elim (fun h => absurd h.2 (ni rfl)) (fun q => q.elim (fun h => absurd h.2 (ni rfl)) (fun q => q.elim (fun h => absurd h.2 (ni rfl)) (fun q => q.elim (fun h => absurd h.2 (ni rfl)) (fun q => q.elim (fun h => absurd h (nn rfl)) (fun q => q.elim (fun h => absurd h (nn rfl)) (fun h => absurd h (nn rfl)))))))))))).trans (hid kn_891)
                  have h_937 := ir_1_2 hI_723
                  refine v_cv rfl rfl rfl rfl (by decide) ⟨⟨rfl, rfl⟩, by decide, rfl⟩ (Nat.le_of_ble_eq_true rfl) (Nat.le_of_ble_eq_true rfl) (L_11_9 (m := c_722) (e1 := e1) (a9 := c_722 1 2) (f0 := c_722 1 4) (F := F) (H := H) hI_920 hI_723 hI_728 ((hid kn_935)) ((hid kn_936)) (rfl) (rfl) (fun j => ((hF_724 2 j (fun q => q.elim (fun h => absurd h.1 (nn rfl)) (fun q => q.elim (fun h => absurd h.1 (nn rfl)) (fun q => q.elim (fun h => absurd h.1 (nn rfl)) (fun q => q.elim (fun h => absurd h.1 (pn0 hA rfl)) (fun q => q.elim (fun h => absurd h.1 (pn0 hA rfl)) (fun q => q.elim (fun h => absurd h.1 (pn0 hA rfl)) (fun q => q.elim (fun h => absurd h.1 (pn0 hA rfl)) (fun q => q.elim (fun h => absurd h (pn hA rfl rfl)) (fun q => q.elim (fun h => absurd h (pn hA rfl rfl)) (fun h => absurd h (pn hA rfl rfl)))))))))))).trans ((hF_114 2 j (fun q => q.elim (fun h => absurd h.1 (nn rfl)) (fun q => q.elim (fun h => absurd h.1 (nn rfl)) (fun h => absurd h.1 (nn rfl))))).trans ((hF_89 2 j (fun h => absurd h.1 (nn rfl))).trans ((hF_29 2 j (fun h => absurd h.1 (nn rfl))).trans (hFm 2 j (fun q => q.elim (fun h => absurd h.1 (nn rfl)) (fun q => q.elim (fun h => absurd h.1 (nn rfl)) (fun q => q.elim (fun h => absurd h.1 (nn rfl)) (fun q => q.elim (fun h => absurd h.1 (pn0 hA rfl)) (fun q => q.elim (fun h => absurd h.1 (pn0 hA rfl)) (fun q => q.elim (fun h => absurd h.1 (pn0 hA rfl)) (fun q => q.elim (fun h => absurd h.1 (pn0 hA rfl)) (fun q => q.elim (fun h => absurd h (pn hA rfl rfl)) (fun q => q.elim (fun h => absurd h (pn hA rfl rfl)) (fun q => q.elim (fun h => absurd h (pn hA rfl rfl)) (fun q => q.elim (fun h => absurd h.1 (pn0 hA rfl)) (fun q => q.elim (fun h => absurd h.1 (pn0 hA rfl)) (fun q => q.elim (fun h => absurd h (pn hA rfl rfl)) (fun h => absurd h.1 (pn hA rfl rfl)))))))))))))))))))).trans (hF j)) (fun j => ((hF_921 43 j (fun q => q.elim (fun h => absurd h.1 (nn rfl)) (fun q => q.elim (fun h => absurd h.1 (nn rfl)) (fun q => q.elim (fun h => absurd h.1 (nn rfl)) (fun q => q.elim (fun h => absurd h.1 (nn rfl)) (fun q => q.elim (fun h => absurd h.1 (nn rfl)) (fun q => q.elim (fun h => absurd h.1 (nn rfl)) (fun q => q.elim (fun h => absurd h.1 (nn rfl)) (fun q => q.elim (fun h => absurd h (nn rfl)) (fun q => q.elim (fun h => absurd h (nn rfl)) (fun h => absurd h (nn rfl)))))))))))).trans ((hF_887 43 j (fun h => absurd h.1 (nn rfl))).trans ((hF_878 43 j (fun h => absurd h.1 (nn rfl))).trans ((hF_871 43 j (fun h => absurd h.1 (nn rfl))).trans (hFc 43 j (fun q => q.elim (fun h => absurd h.1 (nn rfl)) (fun q => q.elim (fun h => absurd h.1 (nn rfl)) (fun q => q.elim (fun h => absurd h.1 (nn rfl)) (fun q => q.elim (fun h => absurd h.1 (nn rfl)) (fun q => q.elim (fun h => absurd h.1 (nn rfl)) (fun q => q.elim (fun h => absurd h.1 (nn rfl)) (fun q => q.elim (fun h => absurd h.1 (nn rfl)) (fun q => q.elim (fun h => absurd h (nn rfl)) (fun q => q.elim (fun h => absurd h (nn rfl)) (fun h => absurd h (nn rfl)))))))))))))))).trans (hH j)) hU hR_923 hG_730 (fun c_938 hI_939 hF_940 hR_942 h_943 h_944 => ?_))
                  refine bk_inl ?_
                  refine v_iinc (v := v + 1) rfl rfl (by decide) rfl ?_
                  refine q_goto (t := 44) rfl (by decide) ?_
                  refine q_aload_n rfl rfl ?_
                  refine v_cv rfl rfl rfl rfl (by decide) ⟨⟨rfl, rfl⟩, by decide, rfl⟩ (Nat.le_of_ble_eq_true rfl) (Nat.le_of_ble_eq_true rfl) ?_
                  refine q_aload_n rfl rfl ?_
                  have h_945 := ir_41_5 hI_939
                  have h_946 := ir_41_4 hI_939
                  have h_947 := ir_41_6 hI_939
                  have h_948 := rt_bad hR_942 (by omega)
                  have hrb_hR_942 := rt_bad hR_942 (by omega)
                  refine v_gi (z := 5) (v := c_727 1 5) rfl rfl rfl (by decide) rfl rfl hrb_hR_942.2.1 ?_
                  refine q_iconst rfl ?_
                  refine v_ic_ne_t (t := 12) rfl (by decide) ⟨by first | (clear h_1 h_2 h_3 h_4 h_5 h_6 h_7 h_8 h_9 h_10 h_11 h_12 h_13 h_14 h_15 h_16 h_17 h_18 h_19 h_20 h_21 h_23 h_24 h_25 h_96 h_115 h_116 h_726 h_731 h_840 h_841 h_842 h_843 h_844 h_846 h_848 h_850 h_851 h_852 h_854 h_855 h_856 h_858 h_859 h_860 h_862 h_863 h_865 h_866 h_868 h_874 h_875 h_911 h_931 h_924 h_932 h_925 h_933 h_926 h_934 h_927 h_937 h_945 h_946 h_947 h_26 h_711 h_867 h_943 h_944; omega) | omega, ⟨(Int.le_trans (by decide) h_845.1), (Int.le_trans h_845.2 (by decide))⟩, by decide, by decide⟩ ?_
                  refine q_iconst rfl ?_
                  refine v_zret rfl rfl (by decide) ?_
                  refine bk_inl ?_
                  refine v_if_eq_t (t := 136) rfl (by decide) (by decide) ?_
                  refine Wp_ls [(0, .ref 41), (1, vi a1)] (lsub_cons rfl (lsub_cons rfl lsub_nil)) ?_
                  have h_949 : c_938 41 5 = c_727 1 5 := hrb_hR_942.2.1
                  have h_950 : c_938 41 6 = c_727 1 4 := hrb_hR_942.2.2.2
                  have kn_951 : Hid (c_938 41 16 = c_919 41 16) := hF_940 41 16 (fun q => q.elim (fun h => absurd h.2 (ni rfl)) (fun q => q.elim (fun h => absurd h.2 (ni rfl)) (fun h => absurd h.2 (ni rfl))))
                  have h_952 : c_938 41 16 = c_919 41 16 := (hid kn_951)
                  have kn_953 : Hid (c_938 41 17 = c_919 41 17) := hF_940 41 17 (fun q => q.elim (fun h => absurd h.2 (ni rfl)) (fun q => q.elim (fun h => absurd h.2 (ni rfl)) (fun h => absurd h.2 (ni rfl))))
                  have h_954 : c_938 41 17 = c_919 41 17 := (hid kn_953)
                  have kn_955 : Hid (c_938 41 18 = c_919 41 18) := hF_940 41 18 (fun q => q.elim (fun h => absurd h.2 (ni rfl)) (fun q => q.elim (fun h => absurd h.2 (ni rfl)) (fun h => absurd h.2 (ni rfl))))
                  have h_956 : c_938 41 18 = c_919 41 18 := (hid kn_955)
                  have kn_957 : Hid (c_938 41 19 = c_919 41 19) := hF_940 41 19 (fun q => q.elim (fun h => absurd h.2 (ni rfl)) (fun q => q.elim (fun h => absurd h.2 (ni rfl)) (fun h => absurd h.2 (ni rfl))))
                  have h_958 : c_938 41 19 = c_919 41 19 := (hid kn_957)
                  have h_959 : c_938 41 16 = c_919 41 16 := (hid kn_951)
                  have h_960 : c_938 41 17 = c_919 41 17 := (hid kn_953)
                  have h_961 : c_938 41 18 = c_919 41 18 := (hid kn_955)
                  exact K c_938  hI_939 (fun a j hm => (hF_940 a j (fun q => q.elim (fun h => hm (Or.inl h)) (fun q => q.elim (fun h => hm (Or.inr (Or.inl h))) (fun h => hm (Or.inr (Or.inr (Or.inl h))))))).trans ((hF_921 a j (fun q => q.elim (fun h => hm (Or.inl h)) (fun q => q.elim (fun h => hm (Or.inr (Or.inl h))) (fun q => q.elim (fun h => hm (Or.inr (Or.inr (Or.inl h)))) (fun q => q.elim (fun h => hm (Or.inr (Or.inr (Or.inr (Or.inl h))))) (fun q => q.elim (fun h => hm (Or.inr (Or.inr (Or.inr (Or.inr (Or.inl h)))))) (fun q => q.elim (fun h => hm (Or.inr (Or.inr (Or.inr (Or.inr (Or.inr (Or.inl h))))))) (fun q => q.elim (fun h => hm (Or.inr (Or.inr (Or.inr (Or.inr (Or.inr (Or.inr (Or.inl h)))))))) (fun q => q.elim (fun h => hm (Or.inr (Or.inr (Or.inr (Or.inr (Or.inr (Or.inr (Or.inr (Or.inl h))))))))) (fun q => q.elim (fun h => hm (Or.inr (Or.inr (Or.inr (Or.inr (Or.inr (Or.inr (Or.inr (Or.inr (Or.inl h)))))))))) (fun h => hm (Or.inr (Or.inr (Or.inr (Or.inr (Or.inr (Or.inr (Or.inr (Or.inr (Or.inr h)))))))))))))))))))).trans ((hF_887 a j (fun h => hm (Or.inl h))).trans ((hF_878 a j (fun h => hm (Or.inl h))).trans ((hF_871 a j (fun h => hm (Or.inl h))).trans (hFc a j (fun q => q.elim (fun h => hm (Or.inl h)) (fun q => q.elim (fun h => hm (Or.inr (Or.inl h))) (fun q => q.elim (fun h => hm (Or.inr (Or.inr (Or.inl h)))) (fun q => q.elim (fun h => hm (Or.inr (Or.inr (Or.inr (Or.inl h))))) (fun q => q.elim (fun h => hm (Or.inr (Or.inr (Or.inr (Or.inr (Or.inl h)))))) (fun q => q.elim (fun h => hm (Or.inr (Or.inr (Or.inr (Or.inr (Or.inr (Or.inl h))))))) (fun q => q.elim (fun h => hm (Or.inr (Or.inr (Or.inr (Or.inr (Or.inr (Or.inr (Or.inl h)))))))) (fun q => q.elim (fun h => hm (Or.inr (Or.inr (Or.inr (Or.inr (Or.inr (Or.inr (Or.inr (Or.inl h))))))))) (fun q => q.elim (fun h => hm (Or.inr (Or.inr (Or.inr (Or.inr (Or.inr (Or.inr (Or.inr (Or.inr (Or.inl h)))))))))) (fun h => hm (Or.inr (Or.inr (Or.inr (Or.inr (Or.inr (Or.inr (Or.inr (Or.inr (Or.inr h))))))))))))))))))))))))) (rt_i2 ⟨⟨by first | (clear h_1 h_2 h_3 h_4 h_5 h_6 h_7 h_8 h_9 h_10 h_11 h_12 h_13 h_14 h_15 h_16 h_17 h_18 h_19 h_20 h_21 h_23 h_24 h_25 h_96 h_115 h_116 h_726 h_731 h_842 h_843 h_844 h_845 h_846 h_847 h_848 h_850 h_851 h_852 h_854 h_855 h_856 h_858 h_859 h_860 h_862 h_863 h_865 h_866 h_868 h_874 h_875 h_911 h_931 h_924 h_932 h_925 h_933 h_926 h_934 h_927 h_937 h_945 h_946 h_947 h_948 h_26 h_711 h_867 h_943 h_944; omega) | omega, by first | (clear h_1 h_2 h_3 h_4 h_5 h_6 h_7 h_8 h_9 h_10 h_11 h_12 h_13 h_14 h_15 h_16 h_17 h_18 h_19 h_20 h_21 h_23 h_24 h_25 h_96 h_115 h_116 h_726 h_731 h_842 h_843 h_844 h_845 h_846 h_847 h_848 h_850 h_851 h_852 h_854 h_855 h_856 h_858 h_859 h_860 h_862 h_863 h_865 h_866 h_868 h_874 h_875 h_911 h_931 h_924 h_932 h_925 h_933 h_926 h_934 h_927 h_937 h_945 h_946 h_947 h_948 h_26 h_711 h_867 h_943 h_944; omega) | omega⟩, by first | (clear h_1 h_2 h_3 h_4 h_5 h_6 h_7 h_8 h_9 h_10 h_11 h_12 h_13 h_14 h_15 h_16 h_17 h_18 h_19 h_20 h_21 h_23 h_24 h_25 h_96 h_115 h_116 h_726 h_731 h_840 h_841 h_842 h_843 h_844 h_848 h_850 h_851 h_852 h_854 h_855 h_856 h_858 h_859 h_860 h_862 h_863 h_865 h_866 h_868 h_874 h_875 h_911 h_931 h_924 h_932 h_925 h_933 h_926 h_934 h_927 h_937 h_945 h_946 h_947 h_26 h_711 h_867 h_943 h_944; omega) | omega, by first | (clear h_1 h_2 h_3 h_4 h_5 h_6 h_7 h_8 h_9 h_10 h_11 h_12 h_13 h_14 h_15 h_16 h_17 h_18 h_19 h_20 h_21 h_23 h_24 h_25 h_96 h_115 h_116 h_726 h_731 h_840 h_841 h_842 h_843 h_844 h_848 h_850 h_851 h_852 h_854 h_855 h_856 h_858 h_859 h_860 h_862 h_863 h_865 h_866 h_868 h_874 h_875 h_911 h_931 h_924 h_932 h_925 h_933 h_926 h_934 h_927 h_937 h_945 h_946 h_947 h_26 h_711 h_867 h_943 h_944; omega) | omega, by first | (clear h_1 h_2 h_3 h_4 h_5 h_6 h_7 h_8 h_9 h_10 h_11 h_12 h_13 h_14 h_15 h_16 h_17 h_18 h_19 h_20 h_21 h_23 h_24 h_25 h_96 h_115 h_116 h_726 h_842 h_843 h_844 h_845 h_846 h_847 h_848 h_850 h_851 h_852 h_854 h_855 h_856 h_858 h_859 h_860 h_862 h_863 h_865 h_866 h_868 h_874 h_875 h_911 h_931 h_924 h_932 h_925 h_933 h_926 h_934 h_927 h_937 h_945 h_946 h_947 h_26 h_711 h_867; omega) | omega⟩) (Or.inr (Or.inl (by first | (clear h_1 h_2 h_3 h_4 h_5 h_6 h_7 h_8 h_9 h_10 h_11 h_12 h_13 h_14 h_15 h_16 h_17 h_18 h_19 h_20 h_21 h_23 h_24 h_25 h_96 h_115 h_116 h_726 h_731 h_842 h_843 h_844 h_845 h_846 h_847 h_848 h_850 h_851 h_852 h_854 h_855 h_856 h_858 h_859 h_860 h_862 h_863 h_865 h_866 h_868 h_874 h_875 h_911 h_931 h_924 h_932 h_925 h_933 h_926 h_934 h_927 h_937 h_945 h_946 h_947 h_948 h_26 h_711 h_867 h_943 h_944; omega) | omega))) (fun hz => absurd hz (by omega)) (fun hz => absurd hz (by omega)) (fun hz => absurd hz (by omega))
              · refine v_ic_ne_f (t := 55) rfl (by decide) (Decidable.not_not.mp h_711) ?_
                refine q_iconst rfl ?_
                refine q_goto (t := 56) rfl (by decide) ?_
                refine v_zret rfl rfl (by decide) ?_
                refine bk_inl ?_
                refine v_if_eq_f (t := 59) rfl (by decide) (by decide) ?_
                refine q_aload_n rfl rfl ?_
                refine q_iconst rfl ?_
                refine q_iload_n rfl rfl ?_
                refine v_cv rfl rfl rfl rfl (by decide) ⟨⟨rfl, rfl⟩, by decide, rfl⟩ (Nat.le_of_ble_eq_true rfl) (Nat.le_of_ble_eq_true rfl) ?_
                refine q_aload_n rfl rfl ?_
                refine v_gi (z := 4) (v := 0) rfl rfl rfl (by decide) rfl rfl (hz_118) ?_
                refine v_if_ne_f (t := 17) rfl (by decide) (by decide) ?_
                refine q_aload_n rfl rfl ?_
                refine q_iload_n rfl rfl ?_
                refine v_pi (z := 4) rfl rfl rfl (by decide) rfl rfl rfl (by decide) ?_
                refine q_aload_n rfl rfl ?_
                refine q_iload_n rfl rfl ?_
                refine v_pi (z := 5) rfl rfl rfl (by decide) rfl rfl rfl (by decide) ?_
                refine q_vret rfl rfl ?_
                refine bk_inl ?_
                refine q_aload_n rfl rfl ?_
                refine v_cv rfl rfl rfl rfl (by decide) ⟨⟨rfl, rfl⟩, by decide, rfl⟩ (Nat.le_of_ble_eq_true rfl) (Nat.le_of_ble_eq_true rfl) ?_
                refine q_aload_n rfl rfl ?_
                refine v_gi (z := 4) (v := 3) rfl rfl rfl (by decide) rfl rfl ((up_n (by decide)).trans (up_e rfl)) ?_
                refine v_if_ne_t (t := 11) rfl (by decide) (by decide) ?_
                refine q_iconst rfl ?_
                refine v_zret rfl rfl (by decide) ?_
                refine bk_inl ?_
                refine v_if_eq_t (t := 73) rfl (by decide) (by decide) ?_
                refine q_aload_n rfl rfl ?_
                refine q_ldc_s rfl rfl rfl (by decide) ?_
                refine v_cv rfl rfl rfl rfl (by decide) ⟨⟨rfl, rfl⟩, by decide, rfl⟩ (Nat.le_of_ble_eq_true rfl) (Nat.le_of_ble_eq_true rfl) ?_
                refine q_aload_n rfl rfl ?_
                refine v_cv rfl rfl rfl rfl (by decide) ⟨⟨rfl, rfl⟩, by decide, rfl⟩ (Nat.le_of_ble_eq_true rfl) (Nat.le_of_ble_eq_true rfl) ?_
                refine q_aload_n rfl rfl ?_
                refine v_gi (z := 4) (v := 3) rfl rfl rfl (by decide) rfl rfl ((up_n (by decide)).trans (up_e rfl)) ?_
                refine v_if_ne_t (t := 11) rfl (by decide) (by decide) ?_
                refine q_iconst rfl ?_
                refine v_zret rfl rfl (by decide) ?_
                refine bk_inl ?_
                refine v_if_eq_t (t := 25) rfl (by decide) (by decide) ?_
                refine q_vret rfl rfl ?_
                refine bk_inl ?_
                refine v_iinc (v := v + 1) rfl rfl (by decide) rfl ?_
                refine q_goto (t := 6) rfl (by decide) ?_
                refine q_iload_n rfl rfl ?_
                refine v_bip rfl (by decide) ?_
                refine v_ic_gt_f (t := 85) rfl (by decide) ⟨by first | exact rgp_l hv.1 (by decide) | omega, by first | (clear h_1 h_2 h_3 h_4 h_5 h_6 h_7 h_8 h_9 h_10 h_11 h_12 h_13 h_14 h_15 h_16 h_17 h_18 h_19 h_20 h_21 h_23 h_24 h_25 h_96 h_115 h_116 h_26; omega) | omega, by decide⟩ ?_
                refine q_aload_n rfl rfl ?_
                refine v_cv rfl rfl rfl rfl (by decide) ⟨⟨rfl, rfl⟩, by decide, rfl⟩ (Nat.le_of_ble_eq_true rfl) (Nat.le_of_ble_eq_true rfl) ?_
                refine q_aload_n rfl rfl ?_
                refine v_cv rfl rfl rfl rfl (by decide) ⟨⟨rfl, rfl⟩, by decide, rfl⟩ (Nat.le_of_ble_eq_true rfl) (Nat.le_of_ble_eq_true rfl) ?_
                refine q_aload_n rfl rfl ?_
                refine v_gi (z := 4) (v := 3) rfl rfl rfl (by decide) rfl rfl ((up_n (by decide)).trans (up_e rfl)) ?_
                refine v_if_ne_t (t := 11) rfl (by decide) (by decide) ?_
                refine q_iconst rfl ?_
                refine v_zret rfl rfl (by decide) ?_
                refine bk_inl ?_
                refine v_if_eq_t (t := 22) rfl (by decide) (by decide) ?_
                refine q_iconst rfl ?_
                refine v_zret rfl rfl (by decide) ?_
                refine bk_inl ?_
                refine v_if_eq_t (t := 85) rfl (by decide) (by decide) ?_
                refine q_vret rfl rfl ?_
                have hI_962 := iw_1_4 (v := 3) hI_113 ⟨by decide, by decide⟩
                have hI_963 := iw_1_5 (v := (nx F e1 a)) hI_962 ⟨by first | (clear h_1 h_2 h_3 h_4 h_5 h_6 h_7 h_8 h_9 h_10 h_11 h_12 h_13 h_14 h_15 h_16 h_17 h_18 h_19 h_20 h_21 h_23 h_25 h_115 h_116; omega) | omega, by first | (clear h_3 h_4 h_5 h_6 h_7 h_8 h_11 h_12 h_13 h_14 h_15 h_16 h_17 h_18 h_19 h_20 h_21 h_23 h_115 h_116; omega) | omega⟩
                intro hE_964
                have hW : Wd P Q P P (up (up c_112 1 4 3) 1 5 (nx F e1 a)) = Wd P Q P P m9 := (Prod.mk.inj (Prod.mk.inj hE_964).2).1
                have h_965 := ir_1_4 hJ9
                have h_966 : m9 1 4 = 3 := wd_fv (z := 4) 4 rfl hW rfl rfl rfl rfl (by decide) ((up_n (by decide)).trans (up_e rfl)) ⟨by decide, by decide⟩ ⟨(Int.le_trans (by decide) h_965.1), (Int.le_trans h_965.2 (by decide))⟩
                have h_967 := ir_1_2 hJ9
                have h_968 : m9 1 2 = (ln F e1 (nx F e1 a)) := wd_fv (z := 2) 2 rfl hW rfl rfl rfl rfl (by decide) ((up_n (by decide)).trans ((up_n (by decide)).trans (hz_117))) ⟨by first | (clear h_3 h_4 h_5 h_6 h_7 h_8 h_9 h_10 h_11 h_12 h_13 h_14 h_15 h_16 h_17 h_18 h_19 h_20 h_21 h_23 h_25 h_115 h_116 h_965 h_966 h_967; omega) | omega, by first | (clear h_3 h_4 h_5 h_6 h_7 h_8 h_9 h_10 h_11 h_12 h_13 h_14 h_15 h_16 h_17 h_18 h_19 h_20 h_21 h_23 h_25 h_115 h_116 h_965 h_966 h_967; omega) | omega⟩ ⟨(Int.le_trans (by decide) h_967.1), (Int.le_trans h_967.2 (by decide))⟩
                have h_969 := ir_1_5 hJ9
                have h_970 : m9 1 5 = (nx F e1 a) := wd_fv (z := 5) 5 rfl hW rfl rfl rfl rfl (by decide) (up_e rfl) ⟨by first | (clear h_1 h_2 h_3 h_4 h_5 h_6 h_7 h_8 h_9 h_10 h_11 h_12 h_13 h_14 h_15 h_16 h_17 h_18 h_19 h_20 h_21 h_23 h_25 h_115 h_116 h_965 h_966 h_967 h_968 h_969; omega) | omega, by first | (clear h_3 h_4 h_5 h_6 h_7 h_8 h_11 h_12 h_13 h_14 h_15 h_16 h_17 h_18 h_19 h_20 h_21 h_23 h_115 h_116 h_965 h_966 h_967 h_969; omega) | omega⟩ ⟨(Int.le_trans (by decide) h_969.1), (Int.le_trans h_969.2 (by decide))⟩
                have kn_971 : Hid (c_27 A 0 = jr) := (hF_29 A 0 (fun h => absurd h.1 (np0 hA rfl))).trans (hg_jr)
                have kn_972 : Hid (c_87 A 0 = jr) := (hF_89 A 0 (fun h => absurd h.1 (np0 hA rfl))).trans (hid kn_971)
                have kn_973 : Hid (c_112 A 0 = jr) := (hF_114 A 0 (fun q => q.elim (fun h => absurd h.1 (np0 hA rfl)) (fun q => q.elim (fun h => absurd h.1 (np0 hA rfl)) (fun h => absurd h.1 (np0 hA rfl))))).trans (hid kn_972)
                have h_974 := ir_p0_0 hJ9 hA
                have h_975 : m9 A 0 = jr := wd_fv (z := 0) 0 rfl hW (ck_p0 hA) (ck_p0 hA) rfl rfl (by omega) ((up_c (np0 hA rfl)).trans ((up_c (np0 hA rfl)).trans (hid kn_973))) ⟨(Int.le_trans (by decide) hjr.1), (Int.le_trans hjr.2 (by decide))⟩ ⟨(Int.le_trans (by decide) h_974.1), (Int.le_trans h_974.2 (by decide))⟩
                have h_976 := ir_p0_1 hJ9 hA
                have h_977 : m9 A 1 = st := wd_fv (z := 1) 1 rfl hW (ck_p0 hA) (ck_p0 hA) rfl rfl (by omega) ((up_c (np0 hA rfl)).trans ((up_c (np0 hA rfl)).trans (hid kn_710))) ⟨(Int.le_trans (by decide) hst.1), (Int.le_trans hst.2 (by decide))⟩ ⟨(Int.le_trans (by decide) h_976.1), (Int.le_trans h_976.2 (by decide))⟩
                have kn_978 : Hid (c_27 A 2 = si) := (hF_29 A 2 (fun h => absurd h.1 (np0 hA rfl))).trans (hg_si)
                have kn_979 : Hid (c_87 A 2 = si) := (hF_89 A 2 (fun h => absurd h.1 (np0 hA rfl))).trans (hid kn_978)
                have kn_980 : Hid (c_112 A 2 = si) := (hF_114 A 2 (fun q => q.elim (fun h => absurd h.1 (np0 hA rfl)) (fun q => q.elim (fun h => absurd h.1 (np0 hA rfl)) (fun h => absurd h.1 (np0 hA rfl))))).trans (hid kn_979)
                have h_981 := ir_p0_2 hJ9 hA
                have h_982 : m9 A 2 = si := wd_fv (z := 2) 2 rfl hW (ck_p0 hA) (ck_p0 hA) rfl rfl (by omega) ((up_c (np0 hA rfl)).trans ((up_c (np0 hA rfl)).trans (hid kn_980))) ⟨(Int.le_trans (by decide) hsi.1), (Int.le_trans hsi.2 (by decide))⟩ ⟨(Int.le_trans (by decide) h_981.1), (Int.le_trans h_981.2 (by decide))⟩
                have kn_983 : Hid (c_27 A 3 = du) := (hF_29 A 3 (fun h => absurd h.1 (np0 hA rfl))).trans (hg_du)
                have kn_984 : Hid (c_87 A 3 = du) := (hF_89 A 3 (fun h => absurd h.1 (np0 hA rfl))).trans (hid kn_983)
                have kn_985 : Hid (c_112 A 3 = du) := (hF_114 A 3 (fun q => q.elim (fun h => absurd h.1 (np0 hA rfl)) (fun q => q.elim (fun h => absurd h.1 (np0 hA rfl)) (fun h => absurd h.1 (np0 hA rfl))))).trans (hid kn_984)
                have h_986 := ir_p0_3 hJ9 hA
                have h_987 : m9 A 3 = du := wd_fv (z := 3) 3 rfl hW (ck_p0 hA) (ck_p0 hA) rfl rfl (by omega) ((up_c (np0 hA rfl)).trans ((up_c (np0 hA rfl)).trans (hid kn_985))) ⟨(Int.le_trans (by decide) hdu.1), (Int.le_trans hdu.2 (by decide))⟩ ⟨(Int.le_trans (by decide) h_986.1), (Int.le_trans h_986.2 (by decide))⟩
                refine q_aload_n rfl rfl ?_
                refine v_cv rfl rfl rfl rfl (by decide) ⟨⟨rfl, rfl⟩, by decide, rfl⟩ (Nat.le_of_ble_eq_true rfl) (Nat.le_of_ble_eq_true rfl) ?_
                refine q_aload_n rfl rfl ?_
                refine v_gi (z := 5) (v := (-1)) rfl rfl rfl (by decide) rfl rfl (hc_1) ?_
                refine q_iconst rfl ?_
                refine v_ic_ne_f (t := 12) rfl (by decide) (by decide) ?_
                refine q_iconst rfl ?_
                refine q_goto (t := 13) rfl (by decide) ?_
                refine v_zret rfl rfl (by decide) ?_
                refine bk_inl ?_
                refine v_if_eq_f (t := 136) rfl (by decide) (by decide) ?_
                refine q_aload_n rfl rfl ?_
                refine v_cv rfl rfl rfl rfl (by decide) ⟨⟨rfl, rfl⟩, by decide, rfl⟩ (Nat.le_of_ble_eq_true rfl) (Nat.le_of_ble_eq_true rfl) ?_
                refine q_aload_n rfl rfl ?_
                have kn_988 : Hid (c2 41 3 = e1) := (hFc 41 3 (fun q => q.elim (fun h => absurd h.2 (ni rfl)) (fun q => q.elim (fun h => absurd h.2 (ni rfl)) (fun q => q.elim (fun h => absurd h.2 (ni rfl)) (fun q => q.elim (fun h => absurd h.2 (ni rfl)) (fun q => q.elim (fun h => absurd h.2 (ni rfl)) (fun q => q.elim (fun h => absurd h.2 (ni rfl)) (fun q => q.elim (fun h => absurd h.2 (ni rfl)) (fun q => q.elim (fun h => absurd h (nn rfl)) (fun q => q.elim (fun h => absurd h (nn rfl)) (fun h => absurd h (nn rfl)))))))))))).trans (hr_e1)
                have h_989 : -2147483648 ≤ (H (nx F e1 a)) ∧ (H (nx F e1 a)) ≤ 2147483647 := by rw [← hH (nx F e1 a)]; exact ir_43 hI (nx F e1 a)
                have h_990 := hU (nx F e1 a) (by omega) (by omega)
                have h_991 := hb_or (b := H) (e := e1) (r := (nx F e1 a))
                have h_992 := hb_bd (b := H) (e := e1) (r := (nx F e1 a)) (lo := -2147483648) (hi := 2147483647) ⟨by omega, by omega⟩ (by decide)
                refine v_cv rfl rfl rfl rfl (by decide) ⟨⟨rfl, rfl⟩, by decide, rfl⟩ (Nat.le_of_ble_eq_true rfl) (Nat.le_of_ble_eq_true rfl) (f_154 (e1 := e1) (a9 := a) (B := H) (r8 := (nx F e1 a)) (r := (hb H e1 (nx F e1 a))) hI2 ((hid kn_988)) ((hr_a)) (fun j => (hFc 43 j (fun q => q.elim (fun h => absurd h.1 (nn rfl)) (fun q => q.elim (fun h => absurd h.1 (nn rfl)) (fun q => q.elim (fun h => absurd h.1 (nn rfl)) (fun q => q.elim (fun h => absurd h.1 (nn rfl)) (fun q => q.elim (fun h => absurd h.1 (nn rfl)) (fun q => q.elim (fun h => absurd h.1 (nn rfl)) (fun q => q.elim (fun h => absurd h.1 (nn rfl)) (fun q => q.elim (fun h => absurd h (nn rfl)) (fun q => q.elim (fun h => absurd h (nn rfl)) (fun h => absurd h (nn rfl)))))))))))).trans (hH j)) ((nx_tr hU (by first | (clear h_1 h_2 h_3 h_4 h_5 h_6 h_7 h_8 h_9 h_10 h_11 h_12 h_13 h_14 h_15 h_16 h_17 h_18 h_19 h_20 h_21 h_23 h_24 h_25 h_96 h_115 h_116 h_965 h_966 h_967 h_968 h_969 h_970 h_974 h_975 h_976 h_977 h_981 h_982 h_986 h_987 h_26; omega) | omega) (by first | (clear h_3 h_4 h_5 h_6 h_7 h_8 h_9 h_10 h_11 h_12 h_13 h_14 h_15 h_16 h_17 h_18 h_19 h_20 h_21 h_23 h_25 h_115 h_116 h_965 h_966 h_967 h_968 h_969 h_970 h_974 h_975 h_976 h_977 h_981 h_982 h_986 h_987; omega) | omega)).trans (rfl)) rfl (fun c_993 hI_994 hF_995 h_996 => ?_))
                refine bk_inl ?_
                refine q_pop rfl rfl ?_
                refine q_aload_n rfl rfl ?_
                refine v_gi (z := 4) (v := (nx F e1 a)) rfl rfl rfl (by decide) rfl rfl (h_996) ?_
                refine q_aload_n rfl rfl ?_
                have kn_997 : Hid (c_993 41 3 = e1) := (hF_995 41 3 (fun h => absurd h.2 (ni rfl))).trans (hid kn_988)
                refine v_gi (z := 3) (v := e1) rfl rfl rfl (by decide) rfl rfl (hid kn_997) ?_
                refine v_ic_ge_f (t := 20) rfl (by decide) ⟨by first | (clear h_1 h_2 h_3 h_4 h_5 h_6 h_7 h_8 h_9 h_10 h_11 h_12 h_13 h_14 h_15 h_16 h_17 h_18 h_19 h_20 h_21 h_23 h_25 h_115 h_116 h_965 h_966 h_967 h_968 h_969 h_974 h_975 h_976 h_977 h_981 h_982 h_986 h_987 h_989 h_990 h_992; omega) | omega, by first | (clear h_1 h_2 h_3 h_4 h_5 h_6 h_7 h_8 h_9 h_10 h_11 h_12 h_13 h_14 h_15 h_16 h_17 h_18 h_19 h_20 h_21 h_23 h_24 h_25 h_96 h_115 h_116 h_965 h_966 h_967 h_968 h_969 h_970 h_974 h_975 h_976 h_977 h_981 h_982 h_986 h_987 h_989 h_990 h_992 h_26 h_991; omega) | omega, (Int.le_trans (rg_eq hg_e1 h_1).2 (by decide))⟩ ?_
                refine q_iconst rfl ?_
                refine q_goto (t := 21) rfl (by decide) ?_
                refine v_zret rfl rfl (by decide) ?_
                refine bk_inl ?_
                refine v_if_eq_f (t := 136) rfl (by decide) (by decide) ?_
                refine q_aload_n rfl rfl ?_
                have h_998 := wv_bd (b := F) (r := (nx F e1 a)) (l := (ln F e1 (nx F e1 a))) (fun j h1 h2 => ⟨(ln_in (e := e1) (a := (nx F e1 a)) h1 h2).1, (ln_in (e := e1) (a := (nx F e1 a)) h1 h2).2.1⟩)
                have h_999 := wr8_1 (b := F) (r := (nx F e1 a)) (l := (ln F e1 (nx F e1 a))) (by omega) (fun j h1 h2 => ⟨(ln_in (e := e1) (a := (nx F e1 a)) h1 h2).1, (ln_in (e := e1) (a := (nx F e1 a)) h1 h2).2.1⟩) (by omega)
                refine v_cv rfl rfl rfl rfl (by decide) ⟨⟨rfl, rfl⟩, by decide, rfl⟩ (Nat.le_of_ble_eq_true rfl) (Nat.le_of_ble_eq_true rfl) (f_157 (e1 := e1) (a9 := (nx F e1 a)) (B := H) (r8 := (nx F e1 a)) (L8 := (ln F e1 (nx F e1 a))) (W8 := (wv F (nx F e1 a) (ln F e1 (nx F e1 a)))) hI_994 ((hid kn_997)) ((h_996)) (fun j => ((hF_995 43 j (fun h => absurd h.1 (nn rfl))).trans (hFc 43 j (fun q => q.elim (fun h => absurd h.1 (nn rfl)) (fun q => q.elim (fun h => absurd h.1 (nn rfl)) (fun q => q.elim (fun h => absurd h.1 (nn rfl)) (fun q => q.elim (fun h => absurd h.1 (nn rfl)) (fun q => q.elim (fun h => absurd h.1 (nn rfl)) (fun q => q.elim (fun h => absurd h.1 (nn rfl)) (fun q => q.elim (fun h => absurd h.1 (nn rfl)) (fun q => q.elim (fun h => absurd h (nn rfl)) (fun q => q.elim (fun h => absurd h (nn rfl)) (fun h => absurd h (nn rfl))))))))))))).trans (hH j)) ((nx_tr hU (by first | (clear h_1 h_2 h_3 h_4 h_5 h_6 h_7 h_8 h_9 h_10 h_11 h_12 h_13 h_14 h_15 h_16 h_17 h_18 h_19 h_20 h_21 h_23 h_25 h_115 h_116 h_965 h_966 h_967 h_968 h_969 h_974 h_975 h_976 h_977 h_981 h_982 h_986 h_987 h_989 h_990 h_992; omega) | omega) (by first | (clear h_3 h_4 h_5 h_6 h_7 h_8 h_9 h_10 h_11 h_12 h_13 h_14 h_15 h_16 h_17 h_18 h_19 h_20 h_21 h_23 h_25 h_115 h_116 h_965 h_966 h_967 h_968 h_969 h_970 h_974 h_975 h_976 h_977 h_981 h_982 h_986 h_987 h_989 h_990 h_992; omega) | omega)).trans ((nx_z (by omega)))) ((ln_tr hU (by first | (clear h_1 h_2 h_3 h_4 h_5 h_6 h_7 h_8 h_9 h_10 h_11 h_12 h_13 h_14 h_15 h_16 h_17 h_18 h_19 h_20 h_21 h_23 h_25 h_115 h_116 h_965 h_966 h_967 h_968 h_969 h_974 h_975 h_976 h_977 h_981 h_982 h_986 h_987 h_989 h_990 h_992; omega) | omega) (by first | (clear h_3 h_4 h_5 h_6 h_7 h_8 h_9 h_10 h_11 h_12 h_13 h_14 h_15 h_16 h_17 h_18 h_19 h_20 h_21 h_23 h_25 h_115 h_116 h_965 h_966 h_967 h_968 h_969 h_970 h_974 h_975 h_976 h_977 h_981 h_982 h_986 h_987 h_989 h_990 h_992; omega) | omega)).trans (rfl)) ((wv_tr hU (by first | (clear h_1 h_2 h_3 h_4 h_5 h_6 h_7 h_8 h_9 h_10 h_11 h_12 h_13 h_14 h_15 h_16 h_17 h_18 h_19 h_20 h_21 h_23 h_25 h_115 h_116 h_965 h_966 h_967 h_968 h_969 h_974 h_975 h_976 h_977 h_981 h_982 h_986 h_987 h_989 h_990 h_992 h_998 h_999; omega) | omega) (by first | (clear h_3 h_4 h_5 h_6 h_7 h_8 h_9 h_10 h_11 h_12 h_13 h_14 h_15 h_16 h_17 h_18 h_19 h_20 h_21 h_23 h_25 h_115 h_116 h_965 h_966 h_969 h_974 h_975 h_976 h_977 h_981 h_982 h_986 h_987 h_989 h_990 h_992 h_998 h_999; omega) | omega) (fun j h1 h2 => ⟨(ln_in (e := e1) (a := (nx F e1 a)) h1 h2).1, (ln_in (e := e1) (a := (nx F e1 a)) h1 h2).2.1⟩)).trans (rfl)) (fun c_1000 hI_1001 hF_1002 hz_1003 => ?_))
                refine bk_inl ?_
                refine q_istore_n rfl (by decide) ?_
                refine q_iload_n rfl rfl ?_
                refine q_call rfl rfl rfl rfl ?_
                refine q_iload_n rfl rfl ?_
                refine q_ldc_s rfl rfl rfl (by decide) ?_
                refine q_call rfl rfl rfl rfl (s_158_16 ?_)
                refine bk_inl ?_
                refine v_ic_eq_f (t := 36) rfl (by decide) ⟨by first | (clear h_1 h_2 h_3 h_4 h_5 h_6 h_7 h_8 h_9 h_10 h_11 h_12 h_13 h_14 h_15 h_16 h_17 h_18 h_19 h_20 h_21 h_23 h_24 h_25 h_96 h_115 h_116 h_965 h_966 h_967 h_968 h_969 h_970 h_974 h_975 h_976 h_977 h_981 h_982 h_986 h_987 h_989 h_990 h_992 h_26 h_991; omega) | omega, ⟨by first | (clear h_1 h_2 h_3 h_4 h_5 h_6 h_7 h_8 h_9 h_10 h_11 h_12 h_13 h_14 h_15 h_16 h_17 h_18 h_19 h_20 h_21 h_23 h_24 h_25 h_96 h_115 h_116 h_965 h_966 h_967 h_968 h_969 h_970 h_974 h_975 h_976 h_977 h_981 h_982 h_986 h_987 h_989 h_990 h_992 h_26 h_991; omega) | omega, by first | (clear h_1 h_2 h_3 h_4 h_5 h_6 h_7 h_8 h_9 h_10 h_11 h_12 h_13 h_14 h_15 h_16 h_17 h_18 h_19 h_20 h_21 h_23 h_24 h_25 h_96 h_115 h_116 h_965 h_966 h_967 h_968 h_969 h_970 h_974 h_975 h_976 h_977 h_981 h_982 h_986 h_987 h_989 h_990 h_992 h_26 h_991; omega) | omega⟩, by decide, by decide⟩ ?_
                refine q_iload_n rfl rfl ?_
                refine q_ldc_s rfl rfl rfl (by decide) ?_
                refine q_call rfl rfl rfl rfl (s_158_17 ?_)
                refine bk_inl ?_
                refine v_ic_eq_t (t := 36) rfl (by decide) (by first | (clear h_1 h_2 h_3 h_4 h_5 h_6 h_7 h_8 h_9 h_10 h_11 h_12 h_13 h_14 h_15 h_16 h_17 h_18 h_19 h_20 h_21 h_23 h_24 h_25 h_96 h_115 h_116 h_965 h_966 h_967 h_968 h_969 h_970 h_974 h_975 h_976 h_977 h_981 h_982 h_986 h_987 h_989 h_990 h_992 h_26 h_991; omega) | omega) ?_
                refine q_iconst rfl ?_
                refine q_goto (t := 41) rfl (by decide) ?_
                refine v_zret rfl rfl (by decide) ?_
                refine bk_inl ?_
                refine v_if_ne_t (t := 82) rfl (by decide) (by decide) ?_
                refine q_iload_n rfl rfl ?_
                refine v_bip rfl (by decide) ?_
                refine v_ic_eq_f (t := 96) rfl (by decide) ⟨by first | (clear h_1 h_2 h_3 h_4 h_5 h_6 h_7 h_8 h_9 h_10 h_11 h_12 h_13 h_14 h_15 h_16 h_17 h_18 h_19 h_20 h_21 h_23 h_24 h_25 h_96 h_115 h_116 h_965 h_966 h_967 h_968 h_969 h_970 h_974 h_975 h_976 h_977 h_981 h_982 h_986 h_987 h_989 h_990 h_992 h_998 h_999 h_26 h_991; omega) | omega, ⟨(Int.le_trans (by decide) hv.1), (Int.le_trans hv.2 (by decide))⟩, by decide, by decide⟩ ?_
                refine q_aload_n rfl rfl ?_
                refine q_iload_n rfl rfl ?_
                refine v_cv rfl rfl rfl rfl (by decide) ⟨⟨rfl, rfl⟩, by decide, rfl⟩ (Nat.le_of_ble_eq_true rfl) (Nat.le_of_ble_eq_true rfl) ?_
                refine q_iload_n rfl rfl ?_
                refine q_ldc_s rfl rfl rfl (by decide) ?_
                refine q_call rfl rfl rfl rfl (s_158_16 ?_)
                refine bk_inl ?_
                refine v_ic_ne_t (t := 26) rfl (by decide) ⟨by first | (clear h_1 h_2 h_3 h_4 h_5 h_6 h_7 h_8 h_9 h_10 h_11 h_12 h_13 h_14 h_15 h_16 h_17 h_18 h_19 h_20 h_21 h_23 h_24 h_25 h_96 h_115 h_116 h_965 h_966 h_967 h_968 h_969 h_970 h_974 h_975 h_976 h_977 h_981 h_982 h_986 h_987 h_989 h_990 h_992 h_26 h_991; omega) | omega, ⟨by first | (clear h_1 h_2 h_3 h_4 h_5 h_6 h_7 h_8 h_9 h_10 h_11 h_12 h_13 h_14 h_15 h_16 h_17 h_18 h_19 h_20 h_21 h_23 h_24 h_25 h_96 h_115 h_116 h_965 h_966 h_967 h_968 h_969 h_970 h_974 h_975 h_976 h_977 h_981 h_982 h_986 h_987 h_989 h_990 h_992 h_26 h_991; omega) | omega, by first | (clear h_1 h_2 h_3 h_4 h_5 h_6 h_7 h_8 h_9 h_10 h_11 h_12 h_13 h_14 h_15 h_16 h_17 h_18 h_19 h_20 h_21 h_23 h_24 h_25 h_96 h_115 h_116 h_965 h_966 h_967 h_968 h_969 h_970 h_974 h_975 h_976 h_977 h_981 h_982 h_986 h_987 h_989 h_990 h_992 h_26 h_991; omega) | omega⟩, by decide, by decide⟩ ?_
                refine q_iload_n rfl rfl ?_
                refine q_ldc_s rfl rfl rfl (by decide) ?_
                refine q_call rfl rfl rfl rfl (s_158_17 ?_)
                refine bk_inl ?_
                refine v_ic_ne_f (t := 51) rfl (by decide) (by first | (clear h_1 h_2 h_3 h_4 h_5 h_6 h_7 h_8 h_9 h_10 h_11 h_12 h_13 h_14 h_15 h_16 h_17 h_18 h_19 h_20 h_21 h_23 h_24 h_25 h_96 h_115 h_116 h_965 h_966 h_967 h_968 h_969 h_970 h_974 h_975 h_976 h_977 h_981 h_982 h_986 h_987 h_989 h_990 h_992 h_26 h_991; omega) | omega) ?_
                refine q_aload_n rfl rfl ?_
                have kn_1004 : Hid (c_993 41 17 = st) := (hF_995 41 17 (fun h => absurd h.2 (ni rfl))).trans (hr_st)
                have kn_1005 : Hid (c_1000 41 17 = st) := (hF_1002 41 17 (fun h => absurd h.2 (ni rfl))).trans (hid kn_1004)
                refine v_gi (z := 17) (v := st) rfl rfl rfl (by decide) rfl rfl (hid kn_1005) ?_
                refine q_iconst rfl ?_
                refine v_ic_ne_f (t := 47) rfl (by decide) (by first | (clear h_1 h_2 h_3 h_4 h_5 h_6 h_7 h_8 h_9 h_10 h_11 h_12 h_13 h_14 h_15 h_16 h_17 h_18 h_19 h_20 h_21 h_23 h_24 h_25 h_96 h_115 h_116 h_965 h_966 h_967 h_968 h_969 h_970 h_974 h_975 h_976 h_977 h_981 h_982 h_986 h_987 h_989 h_990 h_992 h_998 h_999 h_26 h_991; omega) | omega) ?_
                refine q_iconst rfl ?_
                refine q_goto (t := 73) rfl (by decide) ?_
                refine v_zret rfl rfl (by decide) ?_
                refine bk_inl ?_
                refine v_if_eq_f (t := 105) rfl (by decide) (by decide) ?_
                refine q_aload_n rfl rfl ?_
                refine q_iconst rfl ?_
                refine q_aload_n rfl rfl ?_
                refine v_gi (z := 4) (v := (nx F e1 a)) rfl rfl rfl (by decide) rfl rfl (hz_1003) ?_
                refine v_cv rfl rfl rfl rfl (by decide) ⟨⟨rfl, rfl⟩, by decide, rfl⟩ (Nat.le_of_ble_eq_true rfl) (Nat.le_of_ble_eq_true rfl) ?_
                refine q_aload_n rfl rfl ?_
                have kn_1006 : Hid (c_993 41 5 = (-1)) := (hF_995 41 5 (fun h => absurd h.2 (ni rfl))).trans (hc_1)
                have kn_1007 : Hid (c_1000 41 5 = (-1)) := (hF_1002 41 5 (fun h => absurd h.2 (ni rfl))).trans (hid kn_1006)
                refine v_gi (z := 5) (v := (-1)) rfl rfl rfl (by decide) rfl rfl (hid kn_1007) ?_
                refine q_iconst rfl ?_
                refine v_ic_eq_t (t := 9) rfl (by decide) (by decide) ?_
                refine q_aload_n rfl rfl ?_
                refine q_iload_n rfl rfl ?_
                refine v_pi (z := 5) rfl rfl rfl (by decide) rfl rfl rfl (by decide) ?_
                refine q_aload_n rfl rfl ?_
                refine q_iload_n rfl rfl ?_
                refine v_pi (z := 6) rfl rfl rfl (by decide) rfl rfl rfl (by decide) ?_
                refine q_vret rfl rfl ?_
                refine bk_inl ?_
                refine q_aload_n rfl rfl ?_
                refine v_cv rfl rfl rfl rfl (by decide) ⟨⟨rfl, rfl⟩, by decide, rfl⟩ (Nat.le_of_ble_eq_true rfl) (Nat.le_of_ble_eq_true rfl) ?_
                refine q_aload_n rfl rfl ?_
                refine v_gi (z := 5) (v := (nx F e1 a)) rfl rfl rfl (by decide) rfl rfl ((up_n (by decide)).trans (up_e rfl)) ?_
                refine q_iconst rfl ?_
                refine v_ic_ne_t (t := 12) rfl (by decide) ⟨by first | (clear h_1 h_2 h_3 h_4 h_5 h_6 h_7 h_8 h_9 h_10 h_11 h_12 h_13 h_14 h_15 h_16 h_17 h_18 h_19 h_20 h_21 h_23 h_25 h_115 h_116 h_965 h_966 h_967 h_968 h_969 h_974 h_975 h_976 h_977 h_981 h_982 h_986 h_987 h_989 h_990 h_992 h_998 h_999; omega) | omega, ⟨by first | (clear h_1 h_2 h_3 h_4 h_5 h_6 h_7 h_8 h_9 h_10 h_11 h_12 h_13 h_14 h_15 h_16 h_17 h_18 h_19 h_20 h_21 h_23 h_25 h_115 h_116 h_965 h_966 h_967 h_968 h_969 h_974 h_975 h_976 h_977 h_981 h_982 h_986 h_987 h_989 h_990 h_992 h_998 h_999; omega) | omega, by first | (clear h_3 h_4 h_5 h_6 h_7 h_8 h_11 h_12 h_13 h_14 h_15 h_16 h_17 h_18 h_19 h_20 h_21 h_23 h_115 h_116 h_965 h_966 h_967 h_974 h_975 h_976 h_977 h_981 h_982 h_986 h_987 h_998 h_999; omega) | omega⟩, by decide, by decide⟩ ?_
                refine q_iconst rfl ?_
                refine v_zret rfl rfl (by decide) ?_
                refine bk_inl ?_
                refine v_if_ne_f (t := 115) rfl (by decide) (by decide) ?_
                refine q_goto (t := 136) rfl (by decide) ?_
                refine Wp_ls [(0, .ref 41), (1, vi a1)] (lsub_cons rfl (lsub_cons rfl lsub_nil)) ?_
                have hI_1008 := iw_41_5 (v := (nx F e1 a)) hI_1001 ⟨by first | (clear h_1 h_2 h_3 h_4 h_5 h_6 h_7 h_8 h_9 h_10 h_11 h_12 h_13 h_14 h_15 h_16 h_17 h_18 h_19 h_20 h_21 h_23 h_25 h_115 h_116 h_965 h_966 h_967 h_968 h_969 h_974 h_975 h_976 h_977 h_981 h_982 h_986 h_987 h_989 h_990 h_992 h_998 h_999; omega) | omega, by first | (clear h_3 h_4 h_5 h_6 h_7 h_8 h_11 h_12 h_13 h_14 h_15 h_16 h_17 h_18 h_19 h_20 h_21 h_23 h_115 h_116 h_965 h_966 h_967 h_974 h_975 h_976 h_977 h_981 h_982 h_986 h_987 h_998 h_999; omega) | omega⟩
                have hI_1009 := iw_41_6 (v := 3) hI_1008 ⟨by decide, by decide⟩
                have h_1010 : (up (up c_1000 41 5 (nx F e1 a)) 41 6 3) 41 5 = (nx F e1 a) := ((up_n (by decide)).trans (up_e rfl))
                have h_1011 : (up (up c_1000 41 5 (nx F e1 a)) 41 6 3) 41 4 = (nx F e1 a) := ((up_n (by decide)).trans ((up_n (by decide)).trans (hz_1003)))
                have h_1012 : (up (up c_1000 41 5 (nx F e1 a)) 41 6 3) 41 6 = 3 := (up_e rfl)
                have kn_1013 : Hid (c_993 41 16 = jr) := (hF_995 41 16 (fun h => absurd h.2 (ni rfl))).trans (hr_jr)
                have kn_1014 : Hid (c_1000 41 16 = jr) := (hF_1002 41 16 (fun h => absurd h.2 (ni rfl))).trans (hid kn_1013)
                have h_1015 : (up (up c_1000 41 5 (nx F e1 a)) 41 6 3) 41 16 = jr := ((up_n (by decide)).trans ((up_n (by decide)).trans (hid kn_1014)))
                have h_1016 : (up (up c_1000 41 5 (nx F e1 a)) 41 6 3) 41 17 = st := ((up_n (by decide)).trans ((up_n (by decide)).trans (hid kn_1005)))
                have kn_1017 : Hid (c_993 41 18 = si) := (hF_995 41 18 (fun h => absurd h.2 (ni rfl))).trans (hr_si)
                have kn_1018 : Hid (c_1000 41 18 = si) := (hF_1002 41 18 (fun h => absurd h.2 (ni rfl))).trans (hid kn_1017)
                have h_1019 : (up (up c_1000 41 5 (nx F e1 a)) 41 6 3) 41 18 = si := ((up_n (by decide)).trans ((up_n (by decide)).trans (hid kn_1018)))
                have kn_1020 : Hid (c_993 41 19 = du) := (hF_995 41 19 (fun h => absurd h.2 (ni rfl))).trans (hr_du)
                have kn_1021 : Hid (c_1000 41 19 = du) := (hF_1002 41 19 (fun h => absurd h.2 (ni rfl))).trans (hid kn_1020)
                have h_1022 : (up (up c_1000 41 5 (nx F e1 a)) 41 6 3) 41 19 = du := ((up_n (by decide)).trans ((up_n (by decide)).trans (hid kn_1021)))
                have h_1023 : (up (up c_1000 41 5 (nx F e1 a)) 41 6 3) 41 16 = jr := ((up_n (by decide)).trans ((up_n (by decide)).trans (hid kn_1014)))
                have h_1024 : (up (up c_1000 41 5 (nx F e1 a)) 41 6 3) 41 17 = st := ((up_n (by decide)).trans ((up_n (by decide)).trans (hid kn_1005)))
                have h_1025 : (up (up c_1000 41 5 (nx F e1 a)) 41 6 3) 41 18 = si := ((up_n (by decide)).trans ((up_n (by decide)).trans (hid kn_1018)))
                exact K (up (up c_1000 41 5 (nx F e1 a)) 41 6 3)  hI_1009 (fun a j hm => (up_b (Decidable.or_iff_not_imp_left.mpr (fun h1 h2 => hm (Or.inr (Or.inr (Or.inl ⟨Decidable.not_not.mp h1, h2⟩)))))).trans ((up_b (Decidable.or_iff_not_imp_left.mpr (fun h1 h2 => hm (Or.inr (Or.inl ⟨Decidable.not_not.mp h1, h2⟩))))).trans ((hF_1002 a j (fun h => hm (Or.inl h))).trans ((hF_995 a j (fun h => hm (Or.inl h))).trans (hFc a j (fun q => q.elim (fun h => hm (Or.inl h)) (fun q => q.elim (fun h => hm (Or.inr (Or.inl h))) (fun q => q.elim (fun h => hm (Or.inr (Or.inr (Or.inl h)))) (fun q => q.elim (fun h => hm (Or.inr (Or.inr (Or.inr (Or.inl h))))) (fun q => q.elim (fun h => hm (Or.inr (Or.inr (Or.inr (Or.inr (Or.inl h)))))) (fun q => q.elim (fun h => hm (Or.inr (Or.inr (Or.inr (Or.inr (Or.inr (Or.inl h))))))) (fun q => q.elim (fun h => hm (Or.inr (Or.inr (Or.inr (Or.inr (Or.inr (Or.inr (Or.inl h)))))))) (fun q => q.elim (fun h => hm (Or.inr (Or.inr (Or.inr (Or.inr (Or.inr (Or.inr (Or.inr (Or.inl h))))))))) (fun q => q.elim (fun h => hm (Or.inr (Or.inr (Or.inr (Or.inr (Or.inr (Or.inr (Or.inr (Or.inr (Or.inl h)))))))))) (fun h => hm (Or.inr (Or.inr (Or.inr (Or.inr (Or.inr (Or.inr (Or.inr (Or.inr (Or.inr h)))))))))))))))))))))))) (rt_i2 ⟨⟨by first | (clear h_1 h_2 h_3 h_4 h_5 h_6 h_7 h_8 h_9 h_10 h_11 h_12 h_13 h_14 h_15 h_16 h_17 h_18 h_19 h_20 h_21 h_23 h_24 h_25 h_96 h_115 h_116 h_967 h_968 h_969 h_970 h_974 h_975 h_976 h_977 h_981 h_982 h_986 h_987 h_989 h_990 h_992 h_998 h_999 h_26 h_991; omega) | omega, by first | (clear h_1 h_2 h_3 h_4 h_5 h_6 h_7 h_8 h_9 h_10 h_11 h_12 h_13 h_14 h_15 h_16 h_17 h_18 h_19 h_20 h_21 h_23 h_24 h_25 h_96 h_115 h_116 h_967 h_968 h_969 h_970 h_974 h_975 h_976 h_977 h_981 h_982 h_986 h_987 h_989 h_990 h_992 h_998 h_999 h_26 h_991; omega) | omega⟩, by first | (clear h_1 h_2 h_3 h_4 h_5 h_6 h_7 h_8 h_9 h_10 h_11 h_12 h_13 h_14 h_15 h_16 h_17 h_18 h_19 h_20 h_21 h_23 h_25 h_115 h_116 h_965 h_966 h_967 h_968 h_974 h_975 h_976 h_977 h_981 h_982 h_986 h_987 h_989 h_990 h_992 h_998 h_999; omega) | omega, by first | (clear h_1 h_2 h_3 h_4 h_5 h_6 h_7 h_8 h_9 h_10 h_11 h_12 h_13 h_14 h_15 h_16 h_17 h_18 h_19 h_20 h_21 h_23 h_25 h_115 h_116 h_965 h_966 h_967 h_968 h_974 h_975 h_976 h_977 h_981 h_982 h_986 h_987 h_989 h_990 h_992 h_998 h_999; omega) | omega, by first | (clear h_1 h_2 h_3 h_4 h_5 h_6 h_7 h_8 h_9 h_10 h_11 h_12 h_13 h_14 h_15 h_16 h_17 h_18 h_19 h_20 h_21 h_23 h_24 h_25 h_96 h_115 h_116 h_967 h_968 h_969 h_970 h_974 h_975 h_976 h_977 h_981 h_982 h_986 h_987 h_989 h_990 h_992 h_998 h_999 h_26 h_991; omega) | omega⟩) (Or.inr (Or.inl (by first | (clear h_1 h_2 h_3 h_4 h_5 h_6 h_7 h_8 h_9 h_10 h_11 h_12 h_13 h_14 h_15 h_16 h_17 h_18 h_19 h_20 h_21 h_23 h_24 h_25 h_96 h_115 h_116 h_967 h_968 h_969 h_970 h_974 h_975 h_976 h_977 h_981 h_982 h_986 h_987 h_989 h_990 h_992 h_998 h_999 h_26 h_991; omega) | omega))) (fun hz => absurd hz (by omega)) (fun hz => absurd hz (by omega)) (fun hz => absurd hz (by omega))
          by_cases h_1026 : (wd8_0 F (nx F e1 a) (ln F e1 (nx F e1 a))) = 2
          · as_aux_lemma =>
              skip
              refine v_tsw_i (t := 57) 2 rfl (by omega) (by decide) rfl (by decide) ?_
              refine q_aload_n rfl rfl ?_
              have kn_1027 : Hid (c_27 A 2 = si) := (hF_29 A 2 (fun h => absurd h.1 (np0 hA rfl))).trans (hg_si)
              have kn_1028 : Hid (c_87 A 2 = si) := (hF_89 A 2 (fun h => absurd h.1 (np0 hA rfl))).trans (hid kn_1027)
              have kn_1029 : Hid (c_112 A 2 = si) := (hF_114 A 2 (fun q => q.elim (fun h => absurd h.1 (np0 hA rfl)) (fun q => q.elim (fun h => absurd h.1 (np0 hA rfl)) (fun h => absurd h.1 (np0 hA rfl))))).trans (hid kn_1028)
              refine v_gi (z := 2) (v := si) rfl rfl (ck_p0 hA) (by omega) rfl rfl (hid kn_1029) ?_
              refine q_iconst rfl ?_
              by_cases h_1030 : si ≠ 4
              · refine v_ic_ne_t (t := 69) rfl (by decide) ⟨h_1030, ⟨(Int.le_trans (by decide) hsi.1), (Int.le_trans hsi.2 (by decide))⟩, by decide, by decide⟩ ?_
                refine q_iconst rfl ?_
                refine v_zret rfl rfl (by decide) ?_
                refine bk_inl ?_
                refine v_if_eq_t (t := 59) rfl (by decide) (by decide) ?_
                refine q_aload_n rfl rfl ?_
                refine v_cv rfl rfl rfl rfl (by decide) ⟨⟨rfl, rfl⟩, by decide, rfl⟩ (Nat.le_of_ble_eq_true rfl) (Nat.le_of_ble_eq_true rfl) ?_
                refine q_aload_n rfl rfl ?_
                refine v_gi (z := 4) (v := 0) rfl rfl rfl (by decide) rfl rfl (hz_118) ?_
                refine v_if_ne_f (t := 11) rfl (by decide) (by decide) ?_
                refine q_iconst rfl ?_
                refine q_goto (t := 12) rfl (by decide) ?_
                refine v_zret rfl rfl (by decide) ?_
                refine bk_inl ?_
                refine v_if_eq_f (t := 73) rfl (by decide) (by decide) ?_
                refine q_aload_n rfl rfl ?_
                refine q_aload_n rfl rfl ?_
                refine q_iload rfl rfl ?_
                have hw_1031 : (wd8_0 F (nx F e1 a) (ln F e1 (nx F e1 a))) = 2 := by omega
                rw [hw_1031]
                have kn_1032 : Hid (c_27 A 0 = jr) := (hF_29 A 0 (fun h => absurd h.1 (np0 hA rfl))).trans (hg_jr)
                have kn_1033 : Hid (c_87 A 0 = jr) := (hF_89 A 0 (fun h => absurd h.1 (np0 hA rfl))).trans (hid kn_1032)
                have kn_1034 : Hid (c_112 A 0 = jr) := (hF_114 A 0 (fun q => q.elim (fun h => absurd h.1 (np0 hA rfl)) (fun q => q.elim (fun h => absurd h.1 (np0 hA rfl)) (fun h => absurd h.1 (np0 hA rfl))))).trans (hid kn_1033)
                have h_1035 : c_112 A 0 = jr := (hid kn_1034)
                have kn_1036 : Hid (c_27 A 1 = st) := (hF_29 A 1 (fun h => absurd h.1 (np0 hA rfl))).trans (hg_st)
                have kn_1037 : Hid (c_87 A 1 = st) := (hF_89 A 1 (fun h => absurd h.1 (np0 hA rfl))).trans (hid kn_1036)
                have kn_1038 : Hid (c_112 A 1 = st) := (hF_114 A 1 (fun q => q.elim (fun h => absurd h.1 (np0 hA rfl)) (fun q => q.elim (fun h => absurd h.1 (np0 hA rfl)) (fun h => absurd h.1 (np0 hA rfl))))).trans (hid kn_1037)
                have h_1039 : c_112 A 1 = st := (hid kn_1038)
                have h_1040 : c_112 A 2 = si := (hid kn_1029)
                refine v_cv rfl rfl rfl (ck_p0 hA) (by omega) ⟨⟨rfl, rfl⟩, by decide, rfl⟩ (Nat.le_of_ble_eq_true rfl) (Nat.le_of_ble_eq_true rfl) (fn_of (s_33 (a2 := 2) hI_113 hA (show 0 ≤ 2 ∧ 2 ≤ 100 from ⟨by decide, by decide⟩) (Or.inl (by first | (clear h_1 h_2 h_3 h_4 h_5 h_6 h_7 h_8 h_9 h_10 h_11 h_12 h_13 h_14 h_15 h_16 h_17 h_18 h_19 h_20 h_21 h_23 h_24 h_25 h_96 h_115 h_116 h_26 h_1030; omega) | omega)) (Or.inl (by first | (clear h_1 h_2 h_3 h_4 h_5 h_6 h_7 h_8 h_9 h_10 h_11 h_12 h_13 h_14 h_15 h_16 h_17 h_18 h_19 h_20 h_21 h_23 h_24 h_25 h_96 h_115 h_116 h_26 h_1030; omega) | omega)) (Or.inr (by first | (clear h_1 h_2 h_3 h_4 h_5 h_6 h_7 h_8 h_9 h_10 h_11 h_12 h_13 h_14 h_17 h_18 h_19 h_20 h_21 h_23 h_24 h_25 h_96 h_115 h_116 h_26; omega) | omega)) (fun c_1041 hI_1042 hF_1043 => ?_)))
                intro hG_1044
                refine bk_inl ?_
                refine q_aload_n rfl rfl ?_
                refine q_ldc_s rfl rfl rfl (by decide) ?_
                have h_1045 := ir_1_4 hI_1042
                refine v_cv rfl rfl rfl rfl (by decide) ⟨⟨rfl, rfl⟩, by decide, rfl⟩ (Nat.le_of_ble_eq_true rfl) (Nat.le_of_ble_eq_true rfl) (fn_of (s_11 hI_1042 (q := 9) (nt := 1) (by decide) (by decide) (by decide) (fun c_1046 hI_1047 hF_1048 => ?_)))
                intro hG_1049
                refine bk_inl ?_
                refine v_iinc (v := v + 1) rfl rfl (by decide) rfl ?_
                refine q_goto (t := 6) rfl (by decide) ?_
                have h_1050 := ir_1_4 hI_1047
                by_cases h_1051 : c_1046 1 4 = 0
                · skip
                  refine Wp_ls [(0, .ref A), (1, .ref 1), (2, vi (v + 1))] (lsub_cons rfl (lsub_cons rfl (lsub_cons rfl lsub_nil))) ?_
                  refine gh_stop (s_34_l (sc := sc) (d := dh + 18) (c := c_1046) (Z := fun _ => True) hI_1047 hA (fun _ _ _ => trivial) 124 c_1046 (v + 1) hI_1047 (fun a j hm => rfl) ⟨by omega, by omega⟩ (by omega)) (fun hG_1052 => ?_)
                  refine q_aload_n rfl rfl ?_
                  refine v_cv rfl rfl rfl rfl (by decide) ⟨⟨rfl, rfl⟩, by decide, rfl⟩ (Nat.le_of_ble_eq_true rfl) (Nat.le_of_ble_eq_true rfl) ?_
                  refine q_aload_n rfl rfl ?_
                  refine v_gi (z := 5) (v := (-1)) rfl rfl rfl (by decide) rfl rfl (hc_1) ?_
                  refine q_iconst rfl ?_
                  refine v_ic_ne_f (t := 12) rfl (by decide) (by decide) ?_
                  refine q_iconst rfl ?_
                  refine q_goto (t := 13) rfl (by decide) ?_
                  refine v_zret rfl rfl (by decide) ?_
                  refine bk_inl ?_
                  refine v_if_eq_f (t := 136) rfl (by decide) (by decide) ?_
                  refine q_aload_n rfl rfl ?_
                  refine v_cv rfl rfl rfl rfl (by decide) ⟨⟨rfl, rfl⟩, by decide, rfl⟩ (Nat.le_of_ble_eq_true rfl) (Nat.le_of_ble_eq_true rfl) ?_
                  refine q_aload_n rfl rfl ?_
                  have kn_1053 : Hid (c2 41 3 = e1) := (hFc 41 3 (fun q => q.elim (fun h => absurd h.2 (ni rfl)) (fun q => q.elim (fun h => absurd h.2 (ni rfl)) (fun q => q.elim (fun h => absurd h.2 (ni rfl)) (fun q => q.elim (fun h => absurd h.2 (ni rfl)) (fun q => q.elim (fun h => absurd h.2 (ni rfl)) (fun q => q.elim (fun h => absurd h.2 (ni rfl)) (fun q => q.elim (fun h => absurd h.2 (ni rfl)) (fun q => q.elim (fun h => absurd h (nn rfl)) (fun q => q.elim (fun h => absurd h (nn rfl)) (fun h => absurd h (nn rfl)))))))))))).trans (hr_e1)
                  have h_1054 : -2147483648 ≤ (H (nx F e1 a)) ∧ (H (nx F e1 a)) ≤ 2147483647 := by rw [← hH (nx F e1 a)]; exact ir_43 hI (nx F e1 a)
                  have h_1055 := hU (nx F e1 a) (by omega) (by omega)
                  have h_1056 := hb_or (b := H) (e := e1) (r := (nx F e1 a))
                  have h_1057 := hb_bd (b := H) (e := e1) (r := (nx F e1 a)) (lo := -2147483648) (hi := 2147483647) ⟨by omega, by omega⟩ (by decide)
                  refine v_cv rfl rfl rfl rfl (by decide) ⟨⟨rfl, rfl⟩, by decide, rfl⟩ (Nat.le_of_ble_eq_true rfl) (Nat.le_of_ble_eq_true rfl) (f_154 (e1 := e1) (a9 := a) (B := H) (r8 := (nx F e1 a)) (r := (hb H e1 (nx F e1 a))) hI2 ((hid kn_1053)) ((hr_a)) (fun j => (hFc 43 j (fun q => q.elim (fun h => absurd h.1 (nn rfl)) (fun q => q.elim (fun h => absurd h.1 (nn rfl)) (fun q => q.elim (fun h => absurd h.1 (nn rfl)) (fun q => q.elim (fun h => absurd h.1 (nn rfl)) (fun q => q.elim (fun h => absurd h.1 (nn rfl)) (fun q => q.elim (fun h => absurd h.1 (nn rfl)) (fun q => q.elim (fun h => absurd h.1 (nn rfl)) (fun q => q.elim (fun h => absurd h (nn rfl)) (fun q => q.elim (fun h => absurd h (nn rfl)) (fun h => absurd h (nn rfl)))))))))))).trans (hH j)) ((nx_tr hU (by first | (clear h_1 h_2 h_3 h_4 h_5 h_6 h_7 h_8 h_9 h_10 h_11 h_12 h_13 h_14 h_15 h_16 h_17 h_18 h_19 h_20 h_21 h_23 h_24 h_25 h_96 h_115 h_116 h_1045 h_1050 h_1051 h_26 h_1030; omega) | omega) (by first | (clear h_3 h_4 h_5 h_6 h_7 h_8 h_9 h_10 h_11 h_12 h_13 h_14 h_15 h_16 h_17 h_18 h_19 h_20 h_21 h_23 h_25 h_115 h_116 h_1045 h_1050 h_1051 h_1030; omega) | omega)).trans (rfl)) rfl (fun c_1058 hI_1059 hF_1060 h_1061 => ?_))
                  refine bk_inl ?_
                  refine q_pop rfl rfl ?_
                  refine q_aload_n rfl rfl ?_
                  refine v_gi (z := 4) (v := (nx F e1 a)) rfl rfl rfl (by decide) rfl rfl (h_1061) ?_
                  refine q_aload_n rfl rfl ?_
                  have kn_1062 : Hid (c_1058 41 3 = e1) := (hF_1060 41 3 (fun h => absurd h.2 (ni rfl))).trans (hid kn_1053)
                  refine v_gi (z := 3) (v := e1) rfl rfl rfl (by decide) rfl rfl (hid kn_1062) ?_
                  refine v_ic_ge_f (t := 20) rfl (by decide) ⟨by first | (clear h_1 h_2 h_3 h_4 h_5 h_6 h_7 h_8 h_9 h_10 h_11 h_12 h_13 h_14 h_15 h_16 h_17 h_18 h_19 h_20 h_21 h_23 h_25 h_115 h_116 h_1045 h_1050 h_1051 h_1054 h_1055 h_1057 h_1030; omega) | omega, by first | (clear h_1 h_2 h_3 h_4 h_5 h_6 h_7 h_8 h_9 h_10 h_11 h_12 h_13 h_14 h_15 h_16 h_17 h_18 h_19 h_20 h_21 h_23 h_24 h_25 h_96 h_115 h_116 h_1045 h_1050 h_1051 h_1054 h_1055 h_1057 h_26 h_1030 h_1056; omega) | omega, (Int.le_trans (rg_eq hg_e1 h_1).2 (by decide))⟩ ?_
                  refine q_iconst rfl ?_
                  refine q_goto (t := 21) rfl (by decide) ?_
                  refine v_zret rfl rfl (by decide) ?_
                  refine bk_inl ?_
                  refine v_if_eq_f (t := 136) rfl (by decide) (by decide) ?_
                  refine q_aload_n rfl rfl ?_
                  have h_1063 := wv_bd (b := F) (r := (nx F e1 a)) (l := (ln F e1 (nx F e1 a))) (fun j h1 h2 => ⟨(ln_in (e := e1) (a := (nx F e1 a)) h1 h2).1, (ln_in (e := e1) (a := (nx F e1 a)) h1 h2).2.1⟩)
                  have h_1064 := wr8_2 (b := F) (r := (nx F e1 a)) (l := (ln F e1 (nx F e1 a))) (by omega) (fun j h1 h2 => ⟨(ln_in (e := e1) (a := (nx F e1 a)) h1 h2).1, (ln_in (e := e1) (a := (nx F e1 a)) h1 h2).2.1⟩) (by omega)
                  refine v_cv rfl rfl rfl rfl (by decide) ⟨⟨rfl, rfl⟩, by decide, rfl⟩ (Nat.le_of_ble_eq_true rfl) (Nat.le_of_ble_eq_true rfl) (f_157 (e1 := e1) (a9 := (nx F e1 a)) (B := H) (r8 := (nx F e1 a)) (L8 := (ln F e1 (nx F e1 a))) (W8 := (wv F (nx F e1 a) (ln F e1 (nx F e1 a)))) hI_1059 ((hid kn_1062)) ((h_1061)) (fun j => ((hF_1060 43 j (fun h => absurd h.1 (nn rfl))).trans (hFc 43 j (fun q => q.elim (fun h => absurd h.1 (nn rfl)) (fun q => q.elim (fun h => absurd h.1 (nn rfl)) (fun q => q.elim (fun h => absurd h.1 (nn rfl)) (fun q => q.elim (fun h => absurd h.1 (nn rfl)) (fun q => q.elim (fun h => absurd h.1 (nn rfl)) (fun q => q.elim (fun h => absurd h.1 (nn rfl)) (fun q => q.elim (fun h => absurd h.1 (nn rfl)) (fun q => q.elim (fun h => absurd h (nn rfl)) (fun q => q.elim (fun h => absurd h (nn rfl)) (fun h => absurd h (nn rfl))))))))))))).trans (hH j)) ((nx_tr hU (by first | (clear h_1 h_2 h_3 h_4 h_5 h_6 h_7 h_8 h_9 h_10 h_11 h_12 h_13 h_14 h_15 h_16 h_17 h_18 h_19 h_20 h_21 h_23 h_25 h_115 h_116 h_1045 h_1050 h_1051 h_1054 h_1055 h_1057 h_1030; omega) | omega) (by first | (clear h_3 h_4 h_5 h_6 h_7 h_8 h_9 h_10 h_11 h_12 h_13 h_14 h_15 h_16 h_17 h_18 h_19 h_20 h_21 h_23 h_25 h_115 h_116 h_1045 h_1050 h_1051 h_1054 h_1055 h_1057 h_1030; omega) | omega)).trans ((nx_z (by omega)))) ((ln_tr hU (by first | (clear h_1 h_2 h_3 h_4 h_5 h_6 h_7 h_8 h_9 h_10 h_11 h_12 h_13 h_14 h_15 h_16 h_17 h_18 h_19 h_20 h_21 h_23 h_25 h_115 h_116 h_1045 h_1050 h_1051 h_1054 h_1055 h_1057 h_1030; omega) | omega) (by first | (clear h_3 h_4 h_5 h_6 h_7 h_8 h_9 h_10 h_11 h_12 h_13 h_14 h_15 h_16 h_17 h_18 h_19 h_20 h_21 h_23 h_25 h_115 h_116 h_1045 h_1050 h_1051 h_1054 h_1055 h_1057 h_1030; omega) | omega)).trans (rfl)) ((wv_tr hU (by first | (clear h_1 h_2 h_3 h_4 h_5 h_6 h_7 h_8 h_9 h_10 h_11 h_12 h_13 h_14 h_15 h_16 h_17 h_18 h_19 h_20 h_21 h_23 h_25 h_115 h_116 h_1045 h_1050 h_1051 h_1054 h_1055 h_1057 h_1063 h_1064 h_1030; omega) | omega) (by first | (clear h_3 h_4 h_5 h_6 h_7 h_8 h_9 h_10 h_11 h_12 h_13 h_14 h_15 h_16 h_17 h_18 h_19 h_20 h_21 h_23 h_25 h_115 h_116 h_1045 h_1050 h_1051 h_1054 h_1055 h_1057 h_1063 h_1064 h_1030; omega) | omega) (fun j h1 h2 => ⟨(ln_in (e := e1) (a := (nx F e1 a)) h1 h2).1, (ln_in (e := e1) (a := (nx F e1 a)) h1 h2).2.1⟩)).trans (rfl)) (fun c_1065 hI_1066 hF_1067 hz_1068 => ?_))
                  refine bk_inl ?_
                  refine q_istore_n rfl (by decide) ?_
                  refine q_iload_n rfl rfl ?_
                  refine q_call rfl rfl rfl rfl ?_
                  refine q_iload_n rfl rfl ?_
                  refine q_ldc_s rfl rfl rfl (by decide) ?_
                  refine q_call rfl rfl rfl rfl (s_158_16 ?_)
                  refine bk_inl ?_
                  refine v_ic_eq_f (t := 36) rfl (by decide) ⟨by first | (clear h_1 h_2 h_3 h_4 h_5 h_6 h_7 h_8 h_9 h_10 h_11 h_12 h_13 h_14 h_15 h_16 h_17 h_18 h_19 h_20 h_21 h_23 h_24 h_25 h_96 h_115 h_116 h_1045 h_1050 h_1051 h_1054 h_1055 h_1057 h_26 h_1030 h_1056; omega) | omega, ⟨by first | (clear h_1 h_2 h_3 h_4 h_5 h_6 h_7 h_8 h_9 h_10 h_11 h_12 h_13 h_14 h_15 h_16 h_17 h_18 h_19 h_20 h_21 h_23 h_24 h_25 h_96 h_115 h_116 h_1045 h_1050 h_1051 h_1054 h_1055 h_1057 h_26 h_1030 h_1056; omega) | omega, by first | (clear h_1 h_2 h_3 h_4 h_5 h_6 h_7 h_8 h_9 h_10 h_11 h_12 h_13 h_14 h_15 h_16 h_17 h_18 h_19 h_20 h_21 h_23 h_24 h_25 h_96 h_115 h_116 h_1045 h_1050 h_1051 h_1054 h_1055 h_1057 h_26 h_1030 h_1056; omega) | omega⟩, by decide, by decide⟩ ?_
                  refine q_iload_n rfl rfl ?_
                  refine q_ldc_s rfl rfl rfl (by decide) ?_
                  refine q_call rfl rfl rfl rfl (s_158_17 ?_)
                  refine bk_inl ?_
                  refine v_ic_eq_f (t := 36) rfl (by decide) ⟨by first | (clear h_1 h_2 h_3 h_4 h_5 h_6 h_7 h_8 h_9 h_10 h_11 h_12 h_13 h_14 h_15 h_16 h_17 h_18 h_19 h_20 h_21 h_23 h_24 h_25 h_96 h_115 h_116 h_1045 h_1050 h_1051 h_1054 h_1055 h_1057 h_26 h_1030 h_1056; omega) | omega, ⟨by first | (clear h_1 h_2 h_3 h_4 h_5 h_6 h_7 h_8 h_9 h_10 h_11 h_12 h_13 h_14 h_15 h_16 h_17 h_18 h_19 h_20 h_21 h_23 h_24 h_25 h_96 h_115 h_116 h_1045 h_1050 h_1051 h_1054 h_1055 h_1057 h_26 h_1030 h_1056; omega) | omega, by first | (clear h_1 h_2 h_3 h_4 h_5 h_6 h_7 h_8 h_9 h_10 h_11 h_12 h_13 h_14 h_15 h_16 h_17 h_18 h_19 h_20 h_21 h_23 h_24 h_25 h_96 h_115 h_116 h_1045 h_1050 h_1051 h_1054 h_1055 h_1057 h_26 h_1030 h_1056; omega) | omega⟩, by decide, by decide⟩ ?_
                  refine q_iload_n rfl rfl ?_
                  refine q_ldc_s rfl rfl rfl (by decide) ?_
                  refine q_call rfl rfl rfl rfl (s_158_18 ?_)
                  refine bk_inl ?_
                  refine v_ic_eq_t (t := 36) rfl (by decide) (by first | (clear h_1 h_2 h_3 h_4 h_5 h_6 h_7 h_8 h_9 h_10 h_11 h_12 h_13 h_14 h_15 h_16 h_17 h_18 h_19 h_20 h_21 h_23 h_24 h_25 h_96 h_115 h_116 h_1045 h_1050 h_1051 h_1054 h_1055 h_1057 h_26 h_1030 h_1056; omega) | omega) ?_
                  refine q_iconst rfl ?_
                  refine q_goto (t := 41) rfl (by decide) ?_
                  refine v_zret rfl rfl (by decide) ?_
                  refine bk_inl ?_
                  refine v_if_ne_t (t := 82) rfl (by decide) (by decide) ?_
                  refine q_iload_n rfl rfl ?_
                  refine v_bip rfl (by decide) ?_
                  refine v_ic_eq_f (t := 96) rfl (by decide) ⟨by first | (clear h_1 h_2 h_3 h_4 h_5 h_6 h_7 h_8 h_9 h_10 h_11 h_12 h_13 h_14 h_15 h_16 h_17 h_18 h_19 h_20 h_21 h_23 h_24 h_25 h_96 h_115 h_116 h_1045 h_1050 h_1051 h_1054 h_1055 h_1057 h_1063 h_1064 h_26 h_1030 h_1056; omega) | omega, ⟨(Int.le_trans (by decide) hv.1), (Int.le_trans hv.2 (by decide))⟩, by decide, by decide⟩ ?_
                  refine q_aload_n rfl rfl ?_
                  refine q_iload_n rfl rfl ?_
                  refine v_cv rfl rfl rfl rfl (by decide) ⟨⟨rfl, rfl⟩, by decide, rfl⟩ (Nat.le_of_ble_eq_true rfl) (Nat.le_of_ble_eq_true rfl) ?_
                  refine q_iload_n rfl rfl ?_
                  refine q_ldc_s rfl rfl rfl (by decide) ?_
                  refine q_call rfl rfl rfl rfl (s_158_16 ?_)
                  refine bk_inl ?_
                  refine v_ic_ne_t (t := 26) rfl (by decide) ⟨by first | (clear h_1 h_2 h_3 h_4 h_5 h_6 h_7 h_8 h_9 h_10 h_11 h_12 h_13 h_14 h_15 h_16 h_17 h_18 h_19 h_20 h_21 h_23 h_24 h_25 h_96 h_115 h_116 h_1045 h_1050 h_1051 h_1054 h_1055 h_1057 h_26 h_1030 h_1056; omega) | omega, ⟨by first | (clear h_1 h_2 h_3 h_4 h_5 h_6 h_7 h_8 h_9 h_10 h_11 h_12 h_13 h_14 h_15 h_16 h_17 h_18 h_19 h_20 h_21 h_23 h_24 h_25 h_96 h_115 h_116 h_1045 h_1050 h_1051 h_1054 h_1055 h_1057 h_26 h_1030 h_1056; omega) | omega, by first | (clear h_1 h_2 h_3 h_4 h_5 h_6 h_7 h_8 h_9 h_10 h_11 h_12 h_13 h_14 h_15 h_16 h_17 h_18 h_19 h_20 h_21 h_23 h_24 h_25 h_96 h_115 h_116 h_1045 h_1050 h_1051 h_1054 h_1055 h_1057 h_26 h_1030 h_1056; omega) | omega⟩, by decide, by decide⟩ ?_
                  refine q_iload_n rfl rfl ?_
                  refine q_ldc_s rfl rfl rfl (by decide) ?_
                  refine q_call rfl rfl rfl rfl (s_158_17 ?_)
                  refine bk_inl ?_
                  refine v_ic_ne_t (t := 51) rfl (by decide) ⟨by first | (clear h_1 h_2 h_3 h_4 h_5 h_6 h_7 h_8 h_9 h_10 h_11 h_12 h_13 h_14 h_15 h_16 h_17 h_18 h_19 h_20 h_21 h_23 h_24 h_25 h_96 h_115 h_116 h_1045 h_1050 h_1051 h_1054 h_1055 h_1057 h_26 h_1030 h_1056; omega) | omega, ⟨by first | (clear h_1 h_2 h_3 h_4 h_5 h_6 h_7 h_8 h_9 h_10 h_11 h_12 h_13 h_14 h_15 h_16 h_17 h_18 h_19 h_20 h_21 h_23 h_24 h_25 h_96 h_115 h_116 h_1045 h_1050 h_1051 h_1054 h_1055 h_1057 h_26 h_1030 h_1056; omega) | omega, by first | (clear h_1 h_2 h_3 h_4 h_5 h_6 h_7 h_8 h_9 h_10 h_11 h_12 h_13 h_14 h_15 h_16 h_17 h_18 h_19 h_20 h_21 h_23 h_24 h_25 h_96 h_115 h_116 h_1045 h_1050 h_1051 h_1054 h_1055 h_1057 h_26 h_1030 h_1056; omega) | omega⟩, by decide, by decide⟩ ?_
                  refine q_iload_n rfl rfl ?_
                  refine q_ldc_s rfl rfl rfl (by decide) ?_
                  refine q_call rfl rfl rfl rfl (s_158_18 ?_)
                  refine bk_inl ?_
                  refine v_ic_ne_f (t := 72) rfl (by decide) (by first | (clear h_1 h_2 h_3 h_4 h_5 h_6 h_7 h_8 h_9 h_10 h_11 h_12 h_13 h_14 h_15 h_16 h_17 h_18 h_19 h_20 h_21 h_23 h_24 h_25 h_96 h_115 h_116 h_1045 h_1050 h_1051 h_1054 h_1055 h_1057 h_26 h_1030 h_1056; omega) | omega) ?_
                  refine q_aload_n rfl rfl ?_
                  have kn_1069 : Hid (c_1058 41 18 = si) := (hF_1060 41 18 (fun h => absurd h.2 (ni rfl))).trans (hr_si)
                  have kn_1070 : Hid (c_1065 41 18 = si) := (hF_1067 41 18 (fun h => absurd h.2 (ni rfl))).trans (hid kn_1069)
                  refine v_gi (z := 18) (v := si) rfl rfl rfl (by decide) rfl rfl (hid kn_1070) ?_
                  refine q_iconst rfl ?_
                  refine v_ic_ne_t (t := 72) rfl (by decide) ⟨by first | (clear h_1 h_2 h_3 h_4 h_5 h_6 h_7 h_8 h_9 h_10 h_11 h_12 h_13 h_14 h_17 h_18 h_19 h_20 h_21 h_23 h_24 h_25 h_96 h_115 h_116 h_1045 h_1050 h_1051 h_1054 h_1055 h_1057 h_1063 h_1064 h_26 h_1056; omega) | omega, ⟨(Int.le_trans (by decide) hsi.1), (Int.le_trans hsi.2 (by decide))⟩, by decide, by decide⟩ ?_
                  refine q_iconst rfl ?_
                  refine v_zret rfl rfl (by decide) ?_
                  refine bk_inl ?_
                  refine v_if_eq_t (t := 105) rfl (by decide) (by decide) ?_
                  refine q_aload_n rfl rfl ?_
                  refine v_cv rfl rfl rfl rfl (by decide) ⟨⟨rfl, rfl⟩, by decide, rfl⟩ (Nat.le_of_ble_eq_true rfl) (Nat.le_of_ble_eq_true rfl) ?_
                  refine q_aload_n rfl rfl ?_
                  have kn_1071 : Hid (c_1058 41 5 = (-1)) := (hF_1060 41 5 (fun h => absurd h.2 (ni rfl))).trans (hc_1)
                  have kn_1072 : Hid (c_1065 41 5 = (-1)) := (hF_1067 41 5 (fun h => absurd h.2 (ni rfl))).trans (hid kn_1071)
                  refine v_gi (z := 5) (v := (-1)) rfl rfl rfl (by decide) rfl rfl (hid kn_1072) ?_
                  refine q_iconst rfl ?_
                  refine v_ic_ne_f (t := 12) rfl (by decide) (by decide) ?_
                  refine q_iconst rfl ?_
                  refine q_goto (t := 13) rfl (by decide) ?_
                  refine v_zret rfl rfl (by decide) ?_
                  refine bk_inl ?_
                  refine v_if_ne_t (t := 115) rfl (by decide) (by decide) ?_
                  refine q_aload_n rfl rfl ?_
                  have kn_1073 : Hid (c_1065 41 3 = e1) := (hF_1067 41 3 (fun h => absurd h.2 (ni rfl))).trans (hid kn_1062)
                  refine v_cv rfl rfl rfl rfl (by decide) ⟨⟨rfl, rfl⟩, by decide, rfl⟩ (Nat.le_of_ble_eq_true rfl) (Nat.le_of_ble_eq_true rfl) (f_159 (e1 := e1) (a9 := (nx F e1 a)) (B := H) (L8 := (ln F e1 (nx F e1 a))) hI_1066 ((hid kn_1073)) ((hz_1068)) (fun j => ((hF_1067 43 j (fun h => absurd h.1 (nn rfl))).trans ((hF_1060 43 j (fun h => absurd h.1 (nn rfl))).trans (hFc 43 j (fun q => q.elim (fun h => absurd h.1 (nn rfl)) (fun q => q.elim (fun h => absurd h.1 (nn rfl)) (fun q => q.elim (fun h => absurd h.1 (nn rfl)) (fun q => q.elim (fun h => absurd h.1 (nn rfl)) (fun q => q.elim (fun h => absurd h.1 (nn rfl)) (fun q => q.elim (fun h => absurd h.1 (nn rfl)) (fun q => q.elim (fun h => absurd h.1 (nn rfl)) (fun q => q.elim (fun h => absurd h (nn rfl)) (fun q => q.elim (fun h => absurd h (nn rfl)) (fun h => absurd h (nn rfl)))))))))))))).trans (hH j)) ((ln_tr hU (by first | (clear h_1 h_2 h_3 h_4 h_5 h_6 h_7 h_8 h_9 h_10 h_11 h_12 h_13 h_14 h_15 h_16 h_17 h_18 h_19 h_20 h_21 h_23 h_25 h_115 h_116 h_1045 h_1050 h_1051 h_1054 h_1055 h_1057 h_1063 h_1064 h_1030; omega) | omega) (by first | (clear h_3 h_4 h_5 h_6 h_7 h_8 h_9 h_10 h_11 h_12 h_13 h_14 h_15 h_16 h_17 h_18 h_19 h_20 h_21 h_23 h_25 h_115 h_116 h_1045 h_1050 h_1051 h_1054 h_1055 h_1057 h_1063 h_1064 h_1030; omega) | omega)).trans (rfl)) (fun c_1074 hI_1075 hF_1076 hz_1077 => ?_))
                  refine bk_inl ?_
                  refine q_aload_n rfl rfl ?_
                  refine q_iload_n rfl rfl ?_
                  have hw_1078 : (wv F (nx F e1 a) (ln F e1 (nx F e1 a))) = 20223685 := by omega
                  rw [hw_1078]
                  have kn_1079 : Hid (c_112 1 1 = e1) := (hF_114 1 1 (fun q => q.elim (fun h => absurd h.2 (ni rfl)) (fun q => q.elim (fun h => absurd h.2 (ni rfl)) (fun h => absurd h.2 (ni rfl))))).trans (hid kn_91)
                  have kn_1080 : Hid (c_1074 41 3 = e1) := (hF_1076 41 3 (fun h => absurd h.2 (ni rfl))).trans (hid kn_1073)
                  have kn_1081 : Hid (c_1058 41 16 = jr) := (hF_1060 41 16 (fun h => absurd h.2 (ni rfl))).trans (hr_jr)
                  have kn_1082 : Hid (c_1065 41 16 = jr) := (hF_1067 41 16 (fun h => absurd h.2 (ni rfl))).trans (hid kn_1081)
                  have kn_1083 : Hid (c_1074 41 16 = jr) := (hF_1076 41 16 (fun h => absurd h.2 (ni rfl))).trans (hid kn_1082)
                  have kn_1084 : Hid (c_1058 41 17 = st) := (hF_1060 41 17 (fun h => absurd h.2 (ni rfl))).trans (hr_st)
                  have kn_1085 : Hid (c_1065 41 17 = st) := (hF_1067 41 17 (fun h => absurd h.2 (ni rfl))).trans (hid kn_1084)
                  have kn_1086 : Hid (c_1074 41 17 = st) := (hF_1076 41 17 (fun h => absurd h.2 (ni rfl))).trans (hid kn_1085)
                  have kn_1087 : Hid (c_1074 41 18 = si) := (hF_1076 41 18 (fun h => absurd h.2 (ni rfl))).trans (hid kn_1070)
                  have kn_1088 : Hid (c_27 A 3 = du) := (hF_29 A 3 (fun h => absurd h.1 (np0 hA rfl))).trans (hg_du)
                  have kn_1089 : Hid (c_87 A 3 = du) := (hF_89 A 3 (fun h => absurd h.1 (np0 hA rfl))).trans (hid kn_1088)
                  have kn_1090 : Hid (c_112 A 3 = du) := (hF_114 A 3 (fun q => q.elim (fun h => absurd h.1 (np0 hA rfl)) (fun q => q.elim (fun h => absurd h.1 (np0 hA rfl)) (fun h => absurd h.1 (np0 hA rfl))))).trans (hid kn_1089)
                  have kn_1091 : Hid (c_1058 41 19 = du) := (hF_1060 41 19 (fun h => absurd h.2 (ni rfl))).trans (hr_du)
                  have kn_1092 : Hid (c_1065 41 19 = du) := (hF_1067 41 19 (fun h => absurd h.2 (ni rfl))).trans (hid kn_1091)
                  have kn_1093 : Hid (c_1074 41 19 = du) := (hF_1076 41 19 (fun h => absurd h.2 (ni rfl))).trans (hid kn_1092)
                  have h_1094 : c_112 1 4 = 0 := (hz_118)
                  have h_1095 : c_112 1 2 = (ln F e1 (nx F e1 a)) := (hz_117)
                  have h_1096 : c_112 1 5 = (-1) := (hz_119)
                  have kn_1097 : Hid (c_1074 41 5 = (-1)) := (hF_1076 41 5 (fun h => absurd h.2 (ni rfl))).trans (hid kn_1072)
                  have h_1098 : c_1074 41 5 = (-1) := (hid kn_1097)
                  have h_1099 : c_1074 41 4 = (ln F e1 (nx F e1 a)) := (hz_1077)
                  have h_1100 := ir_41_6 hI2
                  have kn_1101 : Hid (c_1058 41 6 = c2 41 6) := hF_1060 41 6 (fun h => absurd h.2 (ni rfl))
                  have kn_1102 : Hid (c_1065 41 6 = c2 41 6) := (hF_1067 41 6 (fun h => absurd h.2 (ni rfl))).trans (hid kn_1101)
                  have kn_1103 : Hid (c_1074 41 6 = c2 41 6) := (hF_1076 41 6 (fun h => absurd h.2 (ni rfl))).trans (hid kn_1102)
                  have h_1104 : c_1074 41 6 = c2 41 6 := (hid kn_1103)
                  have hA_1105 : Ae (4 * jr) (c_112 (A + 1)) (c_1074 44) := ae_fr hrl0 (fun j => (hF_114 (A + 1) j (fun q => q.elim (fun h => absurd h.1 (np hA rfl rfl)) (fun q => q.elim (fun h => absurd h.1 (np hA rfl rfl)) (fun h => absurd h.1 (np hA rfl rfl))))).trans ((hF_89 (A + 1) j (fun h => absurd h.1 (np hA rfl rfl))).trans (hF_29 (A + 1) j (fun h => absurd h.1 (np hA rfl rfl))))) (fun j => (hF_1076 44 j (fun h => absurd h.1 (nn rfl))).trans ((hF_1067 44 j (fun h => absurd h.1 (nn rfl))).trans (hF_1060 44 j (fun h => absurd h.1 (nn rfl)))))
                  have hA_1106 : Ae (3 * st) (c_112 (A + 2)) (c_1074 45) := ae_fr hrl1 (fun j => (hF_114 (A + 2) j (fun q => q.elim (fun h => absurd h.1 (np hA rfl rfl)) (fun q => q.elim (fun h => absurd h.1 (np hA rfl rfl)) (fun h => absurd h.1 (np hA rfl rfl))))).trans ((hF_89 (A + 2) j (fun h => absurd h.1 (np hA rfl rfl))).trans (hF_29 (A + 2) j (fun h => absurd h.1 (np hA rfl rfl))))) (fun j => (hF_1076 45 j (fun h => absurd h.1 (nn rfl))).trans ((hF_1067 45 j (fun h => absurd h.1 (nn rfl))).trans (hF_1060 45 j (fun h => absurd h.1 (nn rfl)))))
                  have hA_1107 : Ae si (c_112 (A + 3)) (c_1074 46) := ae_fr hrl2 (fun j => (hF_114 (A + 3) j (fun q => q.elim (fun h => absurd h.1 (np hA rfl rfl)) (fun q => q.elim (fun h => absurd h.1 (np hA rfl rfl)) (fun h => absurd h.1 (np hA rfl rfl))))).trans ((hF_89 (A + 3) j (fun h => absurd h.1 (np hA rfl rfl))).trans (hF_29 (A + 3) j (fun h => absurd h.1 (np hA rfl rfl))))) (fun j => (hF_1076 46 j (fun h => absurd h.1 (nn rfl))).trans ((hF_1067 46 j (fun h => absurd h.1 (nn rfl))).trans (hF_1060 46 j (fun h => absurd h.1 (nn rfl)))))
                  refine v_cv rfl rfl rfl rfl (by decide) ⟨⟨rfl, rfl⟩, by decide, rfl⟩ (Nat.le_of_ble_eq_true rfl) (Nat.le_of_ble_eq_true rfl) (L_33a_2 (m := c_112) (e1 := e1) (jr := jr) (st := st) (si := si) (du := du) (F := F) (H := H) hI_1075 hI_113 hI_1042 hA (by first | (clear h_1 h_2 h_3 h_4 h_5 h_6 h_7 h_8 h_9 h_10 h_11 h_12 h_13 h_14 h_17 h_18 h_19 h_20 h_21 h_23 h_24 h_25 h_96 h_115 h_116 h_1045 h_1050 h_1051 h_1054 h_1055 h_1057 h_1063 h_1064 h_26 h_1056; omega) | omega) ((hid kn_1079)) ((hid kn_1080)) ((hid kn_1034)) ((hid kn_1083)) ((hid kn_1038)) ((hid kn_1086)) ((hid kn_1029)) ((hid kn_1087)) ((hid kn_1090)) ((hid kn_1093)) (fun j => ((hF_114 2 j (fun q => q.elim (fun h => absurd h.1 (nn rfl)) (fun q => q.elim (fun h => absurd h.1 (nn rfl)) (fun h => absurd h.1 (nn rfl))))).trans ((hF_89 2 j (fun h => absurd h.1 (nn rfl))).trans ((hF_29 2 j (fun h => absurd h.1 (nn rfl))).trans (hFm 2 j (fun q => q.elim (fun h => absurd h.1 (nn rfl)) (fun q => q.elim (fun h => absurd h.1 (nn rfl)) (fun q => q.elim (fun h => absurd h.1 (nn rfl)) (fun q => q.elim (fun h => absurd h.1 (pn0 hA rfl)) (fun q => q.elim (fun h => absurd h.1 (pn0 hA rfl)) (fun q => q.elim (fun h => absurd h.1 (pn0 hA rfl)) (fun q => q.elim (fun h => absurd h.1 (pn0 hA rfl)) (fun q => q.elim (fun h => absurd h (pn hA rfl rfl)) (fun q => q.elim (fun h => absurd h (pn hA rfl rfl)) (fun q => q.elim (fun h => absurd h (pn hA rfl rfl)) (fun q => q.elim (fun h => absurd h.1 (pn0 hA rfl)) (fun q => q.elim (fun h => absurd h.1 (pn0 hA rfl)) (fun q => q.elim (fun h => absurd h (pn hA rfl rfl)) (fun h => absurd h.1 (pn hA rfl rfl))))))))))))))))))).trans (hF j)) (fun j => ((hF_1076 43 j (fun h => absurd h.1 (nn rfl))).trans ((hF_1067 43 j (fun h => absurd h.1 (nn rfl))).trans ((hF_1060 43 j (fun h => absurd h.1 (nn rfl))).trans (hFc 43 j (fun q => q.elim (fun h => absurd h.1 (nn rfl)) (fun q => q.elim (fun h => absurd h.1 (nn rfl)) (fun q => q.elim (fun h => absurd h.1 (nn rfl)) (fun q => q.elim (fun h => absurd h.1 (nn rfl)) (fun q => q.elim (fun h => absurd h.1 (nn rfl)) (fun q => q.elim (fun h => absurd h.1 (nn rfl)) (fun q => q.elim (fun h => absurd h.1 (nn rfl)) (fun q => q.elim (fun h => absurd h (nn rfl)) (fun q => q.elim (fun h => absurd h (nn rfl)) (fun h => absurd h (nn rfl))))))))))))))).trans (hH j)) hU (rt_i1 ⟨by first | (clear h_1 h_2 h_3 h_4 h_5 h_6 h_7 h_8 h_9 h_10 h_11 h_12 h_13 h_14 h_15 h_16 h_17 h_18 h_19 h_20 h_21 h_23 h_24 h_25 h_96 h_115 h_116 h_1045 h_1050 h_1051 h_1054 h_1055 h_1057 h_1063 h_1064 h_1100 h_26 h_1030 h_1056; omega) | omega, by first | (clear h_1 h_2 h_3 h_4 h_5 h_6 h_7 h_8 h_9 h_10 h_11 h_12 h_13 h_14 h_15 h_16 h_17 h_18 h_19 h_20 h_21 h_23 h_24 h_25 h_96 h_115 h_116 h_1045 h_1050 h_1051 h_1054 h_1055 h_1057 h_1063 h_1064 h_1100 h_26 h_1030 h_1056; omega) | omega, by first | (clear h_1 h_2 h_3 h_4 h_5 h_6 h_7 h_8 h_9 h_10 h_11 h_12 h_13 h_14 h_15 h_16 h_17 h_18 h_19 h_20 h_21 h_23 h_24 h_25 h_96 h_115 h_116 h_1045 h_1050 h_1051 h_1054 h_1055 h_1057 h_1063 h_1064 h_1100 h_26 h_1030 h_1056; omega) | omega, by first | (clear h_1 h_2 h_3 h_4 h_5 h_6 h_7 h_8 h_9 h_10 h_11 h_12 h_13 h_14 h_15 h_16 h_17 h_18 h_19 h_20 h_21 h_23 h_24 h_25 h_96 h_115 h_116 h_1045 h_1050 h_1051 h_1054 h_1055 h_1057 h_1063 h_1064 h_1100 h_26 h_1030 h_1056; omega) | omega⟩) (ae_le hA_1105 (by omega)) (ae_le hA_1106 (by omega)) (ae_le hA_1107 (by omega)) hG_1044 (fun c_1108 hI_1109 hF_1110 hR_1112 h_1113 h_1114 h_1115 h_1116 hA_1117 hA_1118 hA_1119 => ?_))
                  refine bk_inl ?_
                  have h_1120 := ir_41_16 hI_1109
                  have h_1121 := ir_p0_0 hI_1042 hA
                  have h_1122 := ir_41_17 hI_1109
                  have h_1123 := ir_p0_1 hI_1042 hA
                  have h_1124 := ir_41_18 hI_1109
                  have h_1125 := ir_p0_2 hI_1042 hA
                  have h_1126 := ir_41_19 hI_1109
                  have h_1127 := ir_p0_3 hI_1042 hA
                  refine q_aload_n rfl rfl ?_
                  refine v_bip rfl (by decide) ?_
                  have kn_1128 : Hid (c_1041 1 1 = e1) := (hF_1043 1 1 (fun q => q.elim (fun h => absurd h.2 (ni rfl)) (fun q => q.elim (fun h => absurd h.2 (ni rfl)) (fun q => q.elim (fun h => absurd h.2 (ni rfl)) (fun q => q.elim (fun h => absurd h.1 (pn0 hA rfl)) (fun q => q.elim (fun h => absurd h.1 (pn0 hA rfl)) (fun q => q.elim (fun h => absurd h.1 (pn0 hA rfl)) (fun q => q.elim (fun h => absurd h.1 (pn0 hA rfl)) (fun q => q.elim (fun h => absurd h (pn hA rfl rfl)) (fun q => q.elim (fun h => absurd h (pn hA rfl rfl)) (fun h => absurd h (pn hA rfl rfl)))))))))))).trans (hid kn_1079)
                  have kn_1129 : Hid (c_1108 41 3 = e1) := (hF_1110 41 3 (fun q => q.elim (fun h => absurd h.2 (ni rfl)) (fun q => q.elim (fun h => absurd h.2 (ni rfl)) (fun q => q.elim (fun h => absurd h.2 (ni rfl)) (fun q => q.elim (fun h => absurd h.2 (ni rfl)) (fun q => q.elim (fun h => absurd h.2 (ni rfl)) (fun q => q.elim (fun h => absurd h.2 (ni rfl)) (fun q => q.elim (fun h => absurd h.2 (ni rfl)) (fun q => q.elim (fun h => absurd h (nn rfl)) (fun q => q.elim (fun h => absurd h (nn rfl)) (fun h => absurd h (nn rfl)))))))))))).trans (hid kn_1080)
                  have h_1130 := ir_1_2 hI_1042
                  refine v_cv rfl rfl rfl rfl (by decide) ⟨⟨rfl, rfl⟩, by decide, rfl⟩ (Nat.le_of_ble_eq_true rfl) (Nat.le_of_ble_eq_true rfl) (L_11_9 (m := c_1041) (e1 := e1) (a9 := c_1041 1 2) (f0 := c_1041 1 4) (F := F) (H := H) hI_1109 hI_1042 hI_1047 ((hid kn_1128)) ((hid kn_1129)) (rfl) (rfl) (fun j => ((hF_1043 2 j (fun q => q.elim (fun h => absurd h.1 (nn rfl)) (fun q => q.elim (fun h => absurd h.1 (nn rfl)) (fun q => q.elim (fun h => absurd h.1 (nn rfl)) (fun q => q.elim (fun h => absurd h.1 (pn0 hA rfl)) (fun q => q.elim (fun h => absurd h.1 (pn0 hA rfl)) (fun q => q.elim (fun h => absurd h.1 (pn0 hA rfl)) (fun q => q.elim (fun h => absurd h.1 (pn0 hA rfl)) (fun q => q.elim (fun h => absurd h (pn hA rfl rfl)) (fun q => q.elim (fun h => absurd h (pn hA rfl rfl)) (fun h => absurd h (pn hA rfl rfl)))))))))))).trans ((hF_114 2 j (fun q => q.elim (fun h => absurd h.1 (nn rfl)) (fun q => q.elim (fun h => absurd h.1 (nn rfl)) (fun h => absurd h.1 (nn rfl))))).trans ((hF_89 2 j (fun h => absurd h.1 (nn rfl))).trans ((hF_29 2 j (fun h => absurd h.1 (nn rfl))).trans (hFm 2 j (fun q => q.elim (fun h => absurd h.1 (nn rfl)) (fun q => q.elim (fun h => absurd h.1 (nn rfl)) (fun q => q.elim (fun h => absurd h.1 (nn rfl)) (fun q => q.elim (fun h => absurd h.1 (pn0 hA rfl)) (fun q => q.elim (fun h => absurd h.1 (pn0 hA rfl)) (fun q => q.elim (fun h => absurd h.1 (pn0 hA rfl)) (fun q => q.elim (fun h => absurd h.1 (pn0 hA rfl)) (fun q => q.elim (fun h => absurd h (pn hA rfl rfl)) (fun q => q.elim (fun h => absurd h (pn hA rfl rfl)) (fun q => q.elim (fun h => absurd h (pn hA rfl rfl)) (fun q => q.elim (fun h => absurd h.1 (pn0 hA rfl)) (fun q => q.elim (fun h => absurd h.1 (pn0 hA rfl)) (fun q => q.elim (fun h => absurd h (pn hA rfl rfl)) (fun h => absurd h.1 (pn hA rfl rfl)))))))))))))))))))).trans (hF j)) (fun j => ((hF_1110 43 j (fun q => q.elim (fun h => absurd h.1 (nn rfl)) (fun q => q.elim (fun h => absurd h.1 (nn rfl)) (fun q => q.elim (fun h => absurd h.1 (nn rfl)) (fun q => q.elim (fun h => absurd h.1 (nn rfl)) (fun q => q.elim (fun h => absurd h.1 (nn rfl)) (fun q => q.elim (fun h => absurd h.1 (nn rfl)) (fun q => q.elim (fun h => absurd h.1 (nn rfl)) (fun q => q.elim (fun h => absurd h (nn rfl)) (fun q => q.elim (fun h => absurd h (nn rfl)) (fun h => absurd h (nn rfl)))))))))))).trans ((hF_1076 43 j (fun h => absurd h.1 (nn rfl))).trans ((hF_1067 43 j (fun h => absurd h.1 (nn rfl))).trans ((hF_1060 43 j (fun h => absurd h.1 (nn rfl))).trans (hFc 43 j (fun q => q.elim (fun h => absurd h.1 (nn rfl)) (fun q => q.elim (fun h => absurd h.1 (nn rfl)) (fun q => q.elim (fun h => absurd h.1 (nn rfl)) (fun q => q.elim (fun h => absurd h.1 (nn rfl)) (fun q => q.elim (fun h => absurd h.1 (nn rfl)) (fun q => q.elim (fun h => absurd h.1 (nn rfl)) (fun q => q.elim (fun h => absurd h.1 (nn rfl)) (fun q => q.elim (fun h => absurd h (nn rfl)) (fun q => q.elim (fun h => absurd h (nn rfl)) (fun h => absurd h (nn rfl)))))))))))))))).trans (hH j)) hU hR_1112 hG_1049 (fun c_1131 hI_1132 hF_1133 hR_1135 h_1136 h_1137 => ?_))
                  refine bk_inl ?_
                  have h_1138 := ir_1_2 hI_1047
                  refine v_iinc (v := v + 1) rfl rfl (by decide) rfl ?_
                  refine q_goto (t := 44) rfl (by decide) ?_
                  refine Wp_ls [(0, .ref 41), (1, vi a1), (2, vi (v + 1))] (lsub_cons rfl (lsub_cons rfl (lsub_cons rfl lsub_nil))) ?_
                  have h_1139 := ir_41_4 hI_1132
                  have h_1140 := ir_1_5 hI_1047
                  have h_1141 := ir_41_5 hI_1132
                  have h_1142 := ir_41_6 hI_1132
                  have h_1143 := rt_ok hR_1135 (by omega)
                  have hro_hR_1135 := rt_ok hR_1135 (by omega)
                  have kn_1144 : Hid (c_1046 A 0 = c_1041 A 0) := hF_1048 A 0 (fun q => q.elim (fun h => absurd h.1 (np0 hA rfl)) (fun q => q.elim (fun h => absurd h.1 (np0 hA rfl)) (fun h => absurd h.1 (np0 hA rfl))))
                  have kn_1145 : Hid (c_1131 41 16 = c_1108 41 16) := hF_1133 41 16 (fun q => q.elim (fun h => absurd h.2 (ni rfl)) (fun q => q.elim (fun h => absurd h.2 (ni rfl)) (fun h => absurd h.2 (ni rfl))))
                  have kn_1146 : Hid (c_1046 A 1 = c_1041 A 1) := hF_1048 A 1 (fun q => q.elim (fun h => absurd h.1 (np0 hA rfl)) (fun q => q.elim (fun h => absurd h.1 (np0 hA rfl)) (fun h => absurd h.1 (np0 hA rfl))))
                  have kn_1147 : Hid (c_1131 41 17 = c_1108 41 17) := hF_1133 41 17 (fun q => q.elim (fun h => absurd h.2 (ni rfl)) (fun q => q.elim (fun h => absurd h.2 (ni rfl)) (fun h => absurd h.2 (ni rfl))))
                  have kn_1148 : Hid (c_1046 A 2 = c_1041 A 2) := hF_1048 A 2 (fun q => q.elim (fun h => absurd h.1 (np0 hA rfl)) (fun q => q.elim (fun h => absurd h.1 (np0 hA rfl)) (fun h => absurd h.1 (np0 hA rfl))))
                  have kn_1149 : Hid (c_1131 41 18 = c_1108 41 18) := hF_1133 41 18 (fun q => q.elim (fun h => absurd h.2 (ni rfl)) (fun q => q.elim (fun h => absurd h.2 (ni rfl)) (fun h => absurd h.2 (ni rfl))))
                  have kn_1150 : Hid (c_1046 A 3 = c_1041 A 3) := hF_1048 A 3 (fun q => q.elim (fun h => absurd h.1 (np0 hA rfl)) (fun q => q.elim (fun h => absurd h.1 (np0 hA rfl)) (fun h => absurd h.1 (np0 hA rfl))))
                  have kn_1151 : Hid (c_1131 41 19 = c_1108 41 19) := hF_1133 41 19 (fun q => q.elim (fun h => absurd h.2 (ni rfl)) (fun q => q.elim (fun h => absurd h.2 (ni rfl)) (fun h => absurd h.2 (ni rfl))))
                  have hA_1152 : Ae (4 * c_1108 41 16) (c_1046 (A + 1)) (c_1131 44) := ae_fr hA_1117 (fun j => hF_1048 (A + 1) j (fun q => q.elim (fun h => absurd h.1 (np hA rfl rfl)) (fun q => q.elim (fun h => absurd h.1 (np hA rfl rfl)) (fun h => absurd h.1 (np hA rfl rfl))))) (fun j => hF_1133 44 j (fun q => q.elim (fun h => absurd h.1 (nn rfl)) (fun q => q.elim (fun h => absurd h.1 (nn rfl)) (fun h => absurd h.1 (nn rfl)))))
                  have hA_1153 : Ae (4 * c_1041 A 0) (c_1046 (A + 1)) (c_1131 44) := ae_le hA_1152 (by omega)
                  have hA_1154 : Ae (3 * c_1108 41 17) (c_1046 (A + 2)) (c_1131 45) := ae_fr hA_1118 (fun j => hF_1048 (A + 2) j (fun q => q.elim (fun h => absurd h.1 (np hA rfl rfl)) (fun q => q.elim (fun h => absurd h.1 (np hA rfl rfl)) (fun h => absurd h.1 (np hA rfl rfl))))) (fun j => hF_1133 45 j (fun q => q.elim (fun h => absurd h.1 (nn rfl)) (fun q => q.elim (fun h => absurd h.1 (nn rfl)) (fun h => absurd h.1 (nn rfl)))))
                  have hA_1155 : Ae (3 * c_1041 A 1) (c_1046 (A + 2)) (c_1131 45) := ae_le hA_1154 (by omega)
                  have hA_1156 : Ae (c_1108 41 18) (c_1046 (A + 3)) (c_1131 46) := ae_fr hA_1119 (fun j => hF_1048 (A + 3) j (fun q => q.elim (fun h => absurd h.1 (np hA rfl rfl)) (fun q => q.elim (fun h => absurd h.1 (np hA rfl rfl)) (fun h => absurd h.1 (np hA rfl rfl))))) (fun j => hF_1133 46 j (fun q => q.elim (fun h => absurd h.1 (nn rfl)) (fun q => q.elim (fun h => absurd h.1 (nn rfl)) (fun h => absurd h.1 (nn rfl)))))
                  have hA_1157 : Ae (c_1041 A 2) (c_1046 (A + 3)) (c_1131 46) := ae_le hA_1156 (by omega)
                  exact ih c_1131 c_1046 (v + 1) (c_1046 1 2) (c_1041 A 0) (c_1041 A 1) (c_1041 A 2) (c_1041 A 3) hI_1132 (fun a j hm => (hF_1133 a j (fun q => q.elim (fun h => hm (Or.inl h)) (fun q => q.elim (fun h => hm (Or.inr (Or.inl h))) (fun h => hm (Or.inr (Or.inr (Or.inl h))))))).trans ((hF_1110 a j (fun q => q.elim (fun h => hm (Or.inl h)) (fun q => q.elim (fun h => hm (Or.inr (Or.inl h))) (fun q => q.elim (fun h => hm (Or.inr (Or.inr (Or.inl h)))) (fun q => q.elim (fun h => hm (Or.inr (Or.inr (Or.inr (Or.inl h))))) (fun q => q.elim (fun h => hm (Or.inr (Or.inr (Or.inr (Or.inr (Or.inl h)))))) (fun q => q.elim (fun h => hm (Or.inr (Or.inr (Or.inr (Or.inr (Or.inr (Or.inl h))))))) (fun q => q.elim (fun h => hm (Or.inr (Or.inr (Or.inr (Or.inr (Or.inr (Or.inr (Or.inl h)))))))) (fun q => q.elim (fun h => hm (Or.inr (Or.inr (Or.inr (Or.inr (Or.inr (Or.inr (Or.inr (Or.inl h))))))))) (fun q => q.elim (fun h => hm (Or.inr (Or.inr (Or.inr (Or.inr (Or.inr (Or.inr (Or.inr (Or.inr (Or.inl h)))))))))) (fun h => hm (Or.inr (Or.inr (Or.inr (Or.inr (Or.inr (Or.inr (Or.inr (Or.inr (Or.inr h)))))))))))))))))))).trans ((hF_1076 a j (fun h => hm (Or.inl h))).trans ((hF_1067 a j (fun h => hm (Or.inl h))).trans ((hF_1060 a j (fun h => hm (Or.inl h))).trans (hFc a j (fun q => q.elim (fun h => hm (Or.inl h)) (fun q => q.elim (fun h => hm (Or.inr (Or.inl h))) (fun q => q.elim (fun h => hm (Or.inr (Or.inr (Or.inl h)))) (fun q => q.elim (fun h => hm (Or.inr (Or.inr (Or.inr (Or.inl h))))) (fun q => q.elim (fun h => hm (Or.inr (Or.inr (Or.inr (Or.inr (Or.inl h)))))) (fun q => q.elim (fun h => hm (Or.inr (Or.inr (Or.inr (Or.inr (Or.inr (Or.inl h))))))) (fun q => q.elim (fun h => hm (Or.inr (Or.inr (Or.inr (Or.inr (Or.inr (Or.inr (Or.inl h)))))))) (fun q => q.elim (fun h => hm (Or.inr (Or.inr (Or.inr (Or.inr (Or.inr (Or.inr (Or.inr (Or.inl h))))))))) (fun q => q.elim (fun h => hm (Or.inr (Or.inr (Or.inr (Or.inr (Or.inr (Or.inr (Or.inr (Or.inr (Or.inl h)))))))))) (fun h => hm (Or.inr (Or.inr (Or.inr (Or.inr (Or.inr (Or.inr (Or.inr (Or.inr (Or.inr h))))))))))))))))))))))))) hI_1047 (fun a j hm => (hF_1048 a j (fun q => q.elim (fun h => hm (Or.inl h)) (fun q => q.elim (fun h => hm (Or.inr (Or.inl h))) (fun h => hm (Or.inr (Or.inr (Or.inl h))))))).trans ((hF_1043 a j (fun q => q.elim (fun h => hm (Or.inl h)) (fun q => q.elim (fun h => hm (Or.inr (Or.inl h))) (fun q => q.elim (fun h => hm (Or.inr (Or.inr (Or.inl h)))) (fun q => q.elim (fun h => hm (Or.inr (Or.inr (Or.inr (Or.inl h))))) (fun q => q.elim (fun h => hm (Or.inr (Or.inr (Or.inr (Or.inr (Or.inl h)))))) (fun q => q.elim (fun h => hm (Or.inr (Or.inr (Or.inr (Or.inr (Or.inr (Or.inl h))))))) (fun q => q.elim (fun h => hm (Or.inr (Or.inr (Or.inr (Or.inr (Or.inr (Or.inr (Or.inl h)))))))) (fun q => q.elim (fun h => hm (Or.inr (Or.inr (Or.inr (Or.inr (Or.inr (Or.inr (Or.inr (Or.inl h))))))))) (fun q => q.elim (fun h => hm (Or.inr (Or.inr (Or.inr (Or.inr (Or.inr (Or.inr (Or.inr (Or.inr (Or.inl h)))))))))) (fun h => hm (Or.inr (Or.inr (Or.inr (Or.inr (Or.inr (Or.inr (Or.inr (Or.inr (Or.inr (Or.inl h))))))))))))))))))))).trans ((hF_114 a j (fun q => q.elim (fun h => hm (Or.inl h)) (fun q => q.elim (fun h => hm (Or.inr (Or.inl h))) (fun h => hm (Or.inr (Or.inr (Or.inl h))))))).trans ((hF_89 a j (fun h => hm (Or.inl h))).trans ((hF_29 a j (fun h => hm (Or.inl h))).trans (hFm a j (fun q => q.elim (fun h => hm (Or.inl h)) (fun q => q.elim (fun h => hm (Or.inr (Or.inl h))) (fun q => q.elim (fun h => hm (Or.inr (Or.inr (Or.inl h)))) (fun q => q.elim (fun h => hm (Or.inr (Or.inr (Or.inr (Or.inl h))))) (fun q => q.elim (fun h => hm (Or.inr (Or.inr (Or.inr (Or.inr (Or.inl h)))))) (fun q => q.elim (fun h => hm (Or.inr (Or.inr (Or.inr (Or.inr (Or.inr (Or.inl h))))))) (fun q => q.elim (fun h => hm (Or.inr (Or.inr (Or.inr (Or.inr (Or.inr (Or.inr (Or.inl h)))))))) (fun q => q.elim (fun h => hm (Or.inr (Or.inr (Or.inr (Or.inr (Or.inr (Or.inr (Or.inr (Or.inl h))))))))) (fun q => q.elim (fun h => hm (Or.inr (Or.inr (Or.inr (Or.inr (Or.inr (Or.inr (Or.inr (Or.inr (Or.inl h)))))))))) (fun q => q.elim (fun h => hm (Or.inr (Or.inr (Or.inr (Or.inr (Or.inr (Or.inr (Or.inr (Or.inr (Or.inr (Or.inl h))))))))))) (fun q => q.elim (fun h => hm (Or.inr (Or.inr (Or.inr (Or.inr (Or.inr (Or.inr (Or.inr (Or.inr (Or.inr (Or.inr (Or.inl h)))))))))))) (fun q => q.elim (fun h => hm (Or.inr (Or.inr (Or.inr (Or.inr (Or.inr (Or.inr (Or.inr (Or.inr (Or.inr (Or.inr (Or.inr (Or.inl h))))))))))))) (fun q => q.elim (fun h => hm (Or.inr (Or.inr (Or.inr (Or.inr (Or.inr (Or.inr (Or.inr (Or.inr (Or.inr (Or.inr (Or.inr (Or.inr (Or.inl h)))))))))))))) (fun h => hm (Or.inr (Or.inr (Or.inr (Or.inr (Or.inr (Or.inr (Or.inr (Or.inr (Or.inr (Or.inr (Or.inr (Or.inr (Or.inr h))))))))))))))))))))))))))))))))) ⟨by omega, by omega⟩ ⟨by omega, by omega⟩ ⟨by omega, by omega⟩ ⟨by omega, by omega⟩ ⟨by omega, by omega⟩ ⟨by omega, by omega⟩ (rfl) (hro_hR_1135.2.2.1) ((hid kn_1144)) ((show _ = c_1108 41 16 from (hid kn_1145)).trans (by omega)) ((hid kn_1146)) ((show _ = c_1108 41 17 from (hid kn_1147)).trans (by omega)) ((hid kn_1148)) ((show _ = c_1108 41 18 from (hid kn_1149)).trans (by omega)) ((hid kn_1150)) ((show _ = c_1108 41 19 from (hid kn_1151)).trans (by omega)) ((show _ = c_1046 1 4 from rfl).trans (by omega)) (hro_hR_1135.2.1) ((show _ = c_1046 1 5 from rfl).trans (by omega)) (ae_le hA_1153 (by omega)) (ae_le hA_1155 (by omega)) (ae_le hA_1157 (by omega)) hG_1052 (by omega)
                · skip
                  refine q_iload_n rfl rfl ?_
                  refine v_bip rfl (by decide) ?_
                  refine v_ic_gt_f (t := 85) rfl (by decide) ⟨by first | exact rgp_l hv.1 (by decide) | omega, by first | (clear h_1 h_2 h_3 h_4 h_5 h_6 h_7 h_8 h_9 h_10 h_11 h_12 h_13 h_14 h_15 h_16 h_17 h_18 h_19 h_20 h_21 h_23 h_24 h_25 h_96 h_115 h_116 h_1045 h_1050 h_26 h_1030; omega) | omega, by decide⟩ ?_
                  refine q_aload_n rfl rfl ?_
                  refine v_cv rfl rfl rfl rfl (by decide) ⟨⟨rfl, rfl⟩, by decide, rfl⟩ (Nat.le_of_ble_eq_true rfl) (Nat.le_of_ble_eq_true rfl) ?_
                  refine q_aload_n rfl rfl ?_
                  refine v_cv rfl rfl rfl rfl (by decide) ⟨⟨rfl, rfl⟩, by decide, rfl⟩ (Nat.le_of_ble_eq_true rfl) (Nat.le_of_ble_eq_true rfl) ?_
                  refine q_aload_n rfl rfl ?_
                  refine v_gi (z := 4) (v := c_1046 1 4) rfl rfl rfl (by decide) rfl rfl rfl ?_
                  refine v_if_ne_t (t := 11) rfl (by decide) ⟨by first | (clear h_1 h_2 h_3 h_4 h_5 h_6 h_7 h_8 h_9 h_10 h_11 h_12 h_13 h_14 h_15 h_16 h_17 h_18 h_19 h_20 h_21 h_23 h_24 h_25 h_96 h_115 h_116 h_1045 h_1050 h_26 h_1030; omega) | omega, ⟨(Int.le_trans (by decide) h_1050.1), (Int.le_trans h_1050.2 (by decide))⟩, by decide, by decide⟩ ?_
                  refine q_iconst rfl ?_
                  refine v_zret rfl rfl (by decide) ?_
                  refine bk_inl ?_
                  refine v_if_eq_t (t := 22) rfl (by decide) (by decide) ?_
                  refine q_iconst rfl ?_
                  refine v_zret rfl rfl (by decide) ?_
                  refine bk_inl ?_
                  refine v_if_eq_t (t := 85) rfl (by decide) (by decide) ?_
                  refine q_vret rfl rfl ?_
                  intro hE_1158
                  have hW : Wd P Q P P c_1046 = Wd P Q P P m9 := (Prod.mk.inj (Prod.mk.inj hE_1158).2).1
                  have h_1159 := ir_1_4 hJ9
                  have h_1160 : m9 1 4 = c_1046 1 4 := wd_fv (z := 4) 4 rfl hW rfl rfl rfl rfl (by decide) rfl ⟨(Int.le_trans (by decide) h_1050.1), (Int.le_trans h_1050.2 (by decide))⟩ ⟨(Int.le_trans (by decide) h_1159.1), (Int.le_trans h_1159.2 (by decide))⟩
                  have h_1161 := ir_1_2 hI_1047
                  have h_1162 := ir_1_2 hJ9
                  have h_1163 : m9 1 2 = c_1046 1 2 := wd_fv (z := 2) 2 rfl hW rfl rfl rfl rfl (by decide) rfl ⟨(Int.le_trans (by decide) h_1161.1), (Int.le_trans h_1161.2 (by decide))⟩ ⟨(Int.le_trans (by decide) h_1162.1), (Int.le_trans h_1162.2 (by decide))⟩
                  have h_1164 := ir_1_5 hI_1047
                  have h_1165 := ir_1_5 hJ9
                  have h_1166 : m9 1 5 = c_1046 1 5 := wd_fv (z := 5) 5 rfl hW rfl rfl rfl rfl (by decide) rfl ⟨(Int.le_trans (by decide) h_1164.1), (Int.le_trans h_1164.2 (by decide))⟩ ⟨(Int.le_trans (by decide) h_1165.1), (Int.le_trans h_1165.2 (by decide))⟩
                  have h_1167 := ir_p0_0 hI_1042 hA
                  have kn_1168 : Hid (c_1046 A 0 = c_1041 A 0) := hF_1048 A 0 (fun q => q.elim (fun h => absurd h.1 (np0 hA rfl)) (fun q => q.elim (fun h => absurd h.1 (np0 hA rfl)) (fun h => absurd h.1 (np0 hA rfl))))
                  have h_1169 := ir_p0_0 hJ9 hA
                  have h_1170 : m9 A 0 = c_1041 A 0 := wd_fv (z := 0) 0 rfl hW (ck_p0 hA) (ck_p0 hA) rfl rfl (by omega) (hid kn_1168) ⟨by first | (clear h_1 h_2 h_3 h_4 h_5 h_6 h_7 h_8 h_9 h_10 h_11 h_12 h_13 h_14 h_15 h_16 h_17 h_18 h_19 h_20 h_21 h_23 h_24 h_25 h_96 h_115 h_116 h_1045 h_1050 h_1159 h_1160 h_1161 h_1162 h_1163 h_1164 h_1165 h_1166 h_1169 h_26 h_1030; omega) | omega, by first | (clear h_1 h_2 h_3 h_4 h_5 h_6 h_7 h_8 h_9 h_10 h_11 h_12 h_13 h_14 h_15 h_16 h_17 h_18 h_19 h_20 h_21 h_23 h_24 h_25 h_96 h_115 h_116 h_1045 h_1050 h_1159 h_1160 h_1161 h_1162 h_1163 h_1164 h_1165 h_1166 h_1169 h_26 h_1030; omega) | omega⟩ ⟨(Int.le_trans (by decide) h_1169.1), (Int.le_trans h_1169.2 (by decide))⟩
                  have h_1171 := ir_p0_1 hI_1042 hA
                  have kn_1172 : Hid (c_1046 A 1 = c_1041 A 1) := hF_1048 A 1 (fun q => q.elim (fun h => absurd h.1 (np0 hA rfl)) (fun q => q.elim (fun h => absurd h.1 (np0 hA rfl)) (fun h => absurd h.1 (np0 hA rfl))))
                  have h_1173 := ir_p0_1 hJ9 hA
                  have h_1174 : m9 A 1 = c_1041 A 1 := wd_fv (z := 1) 1 rfl hW (ck_p0 hA) (ck_p0 hA) rfl rfl (by omega) (hid kn_1172) ⟨by first | (clear h_1 h_2 h_3 h_4 h_5 h_6 h_7 h_8 h_9 h_10 h_11 h_12 h_13 h_14 h_15 h_16 h_17 h_18 h_19 h_20 h_21 h_23 h_24 h_25 h_96 h_115 h_116 h_1045 h_1050 h_1159 h_1160 h_1161 h_1162 h_1163 h_1164 h_1165 h_1166 h_1167 h_1169 h_1170 h_1173 h_26 h_1030; omega) | omega, by first | (clear h_1 h_2 h_3 h_4 h_5 h_6 h_7 h_8 h_9 h_10 h_11 h_12 h_13 h_14 h_15 h_16 h_17 h_18 h_19 h_20 h_21 h_23 h_24 h_25 h_96 h_115 h_116 h_1045 h_1050 h_1159 h_1160 h_1161 h_1162 h_1163 h_1164 h_1165 h_1166 h_1167 h_1169 h_1170 h_1173 h_26 h_1030; omega) | omega⟩ ⟨(Int.le_trans (by decide) h_1173.1), (Int.le_trans h_1173.2 (by decide))⟩
                  have h_1175 := ir_p0_2 hI_1042 hA
                  have kn_1176 : Hid (c_1046 A 2 = c_1041 A 2) := hF_1048 A 2 (fun q => q.elim (fun h => absurd h.1 (np0 hA rfl)) (fun q => q.elim (fun h => absurd h.1 (np0 hA rfl)) (fun h => absurd h.1 (np0 hA rfl))))
                  have h_1177 := ir_p0_2 hJ9 hA
                  have h_1178 : m9 A 2 = c_1041 A 2 := wd_fv (z := 2) 2 rfl hW (ck_p0 hA) (ck_p0 hA) rfl rfl (by omega) (hid kn_1176) ⟨by first | (clear h_1 h_2 h_3 h_4 h_5 h_6 h_7 h_8 h_9 h_10 h_11 h_12 h_13 h_14 h_15 h_16 h_17 h_18 h_19 h_20 h_21 h_23 h_24 h_25 h_96 h_115 h_116 h_1045 h_1050 h_1159 h_1160 h_1161 h_1162 h_1163 h_1164 h_1165 h_1166 h_1167 h_1169 h_1170 h_1171 h_1173 h_1174 h_1177 h_26 h_1030; omega) | omega, by first | (clear h_1 h_2 h_3 h_4 h_5 h_6 h_7 h_8 h_9 h_10 h_11 h_12 h_13 h_14 h_15 h_16 h_17 h_18 h_19 h_20 h_21 h_23 h_24 h_25 h_96 h_115 h_116 h_1045 h_1050 h_1159 h_1160 h_1161 h_1162 h_1163 h_1164 h_1165 h_1166 h_1167 h_1169 h_1170 h_1171 h_1173 h_1174 h_1177 h_26 h_1030; omega) | omega⟩ ⟨(Int.le_trans (by decide) h_1177.1), (Int.le_trans h_1177.2 (by decide))⟩
                  have h_1179 := ir_p0_3 hI_1042 hA
                  have kn_1180 : Hid (c_1046 A 3 = c_1041 A 3) := hF_1048 A 3 (fun q => q.elim (fun h => absurd h.1 (np0 hA rfl)) (fun q => q.elim (fun h => absurd h.1 (np0 hA rfl)) (fun h => absurd h.1 (np0 hA rfl))))
                  have h_1181 := ir_p0_3 hJ9 hA
                  have h_1182 : m9 A 3 = c_1041 A 3 := wd_fv (z := 3) 3 rfl hW (ck_p0 hA) (ck_p0 hA) rfl rfl (by omega) (hid kn_1180) ⟨by first | (clear h_1 h_2 h_3 h_4 h_5 h_6 h_7 h_8 h_9 h_10 h_11 h_12 h_13 h_14 h_15 h_16 h_17 h_18 h_19 h_20 h_21 h_23 h_24 h_25 h_96 h_115 h_116 h_1045 h_1050 h_1159 h_1160 h_1161 h_1162 h_1163 h_1164 h_1165 h_1166 h_1167 h_1169 h_1170 h_1171 h_1173 h_1174 h_1175 h_1177 h_1178 h_1181 h_26 h_1030; omega) | omega, by first | (clear h_1 h_2 h_3 h_4 h_5 h_6 h_7 h_8 h_9 h_10 h_11 h_12 h_13 h_14 h_15 h_16 h_17 h_18 h_19 h_20 h_21 h_23 h_24 h_25 h_96 h_115 h_116 h_1045 h_1050 h_1159 h_1160 h_1161 h_1162 h_1163 h_1164 h_1165 h_1166 h_1167 h_1169 h_1170 h_1171 h_1173 h_1174 h_1175 h_1177 h_1178 h_1181 h_26 h_1030; omega) | omega⟩ ⟨(Int.le_trans (by decide) h_1181.1), (Int.le_trans h_1181.2 (by decide))⟩
                  refine q_aload_n rfl rfl ?_
                  refine v_cv rfl rfl rfl rfl (by decide) ⟨⟨rfl, rfl⟩, by decide, rfl⟩ (Nat.le_of_ble_eq_true rfl) (Nat.le_of_ble_eq_true rfl) ?_
                  refine q_aload_n rfl rfl ?_
                  refine v_gi (z := 5) (v := (-1)) rfl rfl rfl (by decide) rfl rfl (hc_1) ?_
                  refine q_iconst rfl ?_
                  refine v_ic_ne_f (t := 12) rfl (by decide) (by decide) ?_
                  refine q_iconst rfl ?_
                  refine q_goto (t := 13) rfl (by decide) ?_
                  refine v_zret rfl rfl (by decide) ?_
                  refine bk_inl ?_
                  refine v_if_eq_f (t := 136) rfl (by decide) (by decide) ?_
                  refine q_aload_n rfl rfl ?_
                  refine v_cv rfl rfl rfl rfl (by decide) ⟨⟨rfl, rfl⟩, by decide, rfl⟩ (Nat.le_of_ble_eq_true rfl) (Nat.le_of_ble_eq_true rfl) ?_
                  refine q_aload_n rfl rfl ?_
                  have kn_1183 : Hid (c2 41 3 = e1) := (hFc 41 3 (fun q => q.elim (fun h => absurd h.2 (ni rfl)) (fun q => q.elim (fun h => absurd h.2 (ni rfl)) (fun q => q.elim (fun h => absurd h.2 (ni rfl)) (fun q => q.elim (fun h => absurd h.2 (ni rfl)) (fun q => q.elim (fun h => absurd h.2 (ni rfl)) (fun q => q.elim (fun h => absurd h.2 (ni rfl)) (fun q => q.elim (fun h => absurd h.2 (ni rfl)) (fun q => q.elim (fun h => absurd h (nn rfl)) (fun q => q.elim (fun h => absurd h (nn rfl)) (fun h => absurd h (nn rfl)))))))))))).trans (hr_e1)
                  have h_1184 : -2147483648 ≤ (H (nx F e1 a)) ∧ (H (nx F e1 a)) ≤ 2147483647 := by rw [← hH (nx F e1 a)]; exact ir_43 hI (nx F e1 a)
                  have h_1185 := hU (nx F e1 a) (by omega) (by omega)
                  have h_1186 := hb_or (b := H) (e := e1) (r := (nx F e1 a))
                  have h_1187 := hb_bd (b := H) (e := e1) (r := (nx F e1 a)) (lo := -2147483648) (hi := 2147483647) ⟨by omega, by omega⟩ (by decide)
                  refine v_cv rfl rfl rfl rfl (by decide) ⟨⟨rfl, rfl⟩, by decide, rfl⟩ (Nat.le_of_ble_eq_true rfl) (Nat.le_of_ble_eq_true rfl) (f_154 (e1 := e1) (a9 := a) (B := H) (r8 := (nx F e1 a)) (r := (hb H e1 (nx F e1 a))) hI2 ((hid kn_1183)) ((hr_a)) (fun j => (hFc 43 j (fun q => q.elim (fun h => absurd h.1 (nn rfl)) (fun q => q.elim (fun h => absurd h.1 (nn rfl)) (fun q => q.elim (fun h => absurd h.1 (nn rfl)) (fun q => q.elim (fun h => absurd h.1 (nn rfl)) (fun q => q.elim (fun h => absurd h.1 (nn rfl)) (fun q => q.elim (fun h => absurd h.1 (nn rfl)) (fun q => q.elim (fun h => absurd h.1 (nn rfl)) (fun q => q.elim (fun h => absurd h (nn rfl)) (fun q => q.elim (fun h => absurd h (nn rfl)) (fun h => absurd h (nn rfl)))))))))))).trans (hH j)) ((nx_tr hU (by first | (clear h_1 h_2 h_3 h_4 h_5 h_6 h_7 h_8 h_9 h_10 h_11 h_12 h_13 h_14 h_15 h_16 h_17 h_18 h_19 h_20 h_21 h_23 h_24 h_25 h_96 h_115 h_116 h_1045 h_1050 h_1159 h_1160 h_1161 h_1162 h_1163 h_1164 h_1165 h_1166 h_1167 h_1169 h_1170 h_1171 h_1173 h_1174 h_1175 h_1177 h_1178 h_1179 h_1181 h_1182 h_26 h_1030; omega) | omega) (by first | (clear h_3 h_4 h_5 h_6 h_7 h_8 h_9 h_10 h_11 h_12 h_13 h_14 h_15 h_16 h_17 h_18 h_19 h_20 h_21 h_23 h_25 h_115 h_116 h_1045 h_1050 h_1159 h_1160 h_1161 h_1162 h_1163 h_1164 h_1165 h_1166 h_1167 h_1169 h_1170 h_1171 h_1173 h_1174 h_1175 h_1177 h_1178 h_1179 h_1181 h_1182 h_1030; omega) | omega)).trans (rfl)) rfl (fun c_1188 hI_1189 hF_1190 h_1191 => ?_))
                  refine bk_inl ?_
                  refine q_pop rfl rfl ?_
                  refine q_aload_n rfl rfl ?_
                  refine v_gi (z := 4) (v := (nx F e1 a)) rfl rfl rfl (by decide) rfl rfl (h_1191) ?_
                  refine q_aload_n rfl rfl ?_
                  have kn_1192 : Hid (c_1188 41 3 = e1) := (hF_1190 41 3 (fun h => absurd h.2 (ni rfl))).trans (hid kn_1183)
                  refine v_gi (z := 3) (v := e1) rfl rfl rfl (by decide) rfl rfl (hid kn_1192) ?_
                  refine v_ic_ge_f (t := 20) rfl (by decide) ⟨by first | (clear h_1 h_2 h_3 h_4 h_5 h_6 h_7 h_8 h_9 h_10 h_11 h_12 h_13 h_14 h_15 h_16 h_17 h_18 h_19 h_20 h_21 h_23 h_25 h_115 h_116 h_1045 h_1050 h_1159 h_1160 h_1161 h_1162 h_1163 h_1164 h_1165 h_1166 h_1167 h_1169 h_1170 h_1171 h_1173 h_1174 h_1175 h_1177 h_1178 h_1179 h_1181 h_1182 h_1184 h_1185 h_1187 h_1030; omega) | omega, by first | (clear h_1 h_2 h_3 h_4 h_5 h_6 h_7 h_8 h_9 h_10 h_11 h_12 h_13 h_14 h_15 h_16 h_17 h_18 h_19 h_20 h_21 h_23 h_24 h_25 h_96 h_115 h_116 h_1045 h_1050 h_1159 h_1160 h_1161 h_1162 h_1163 h_1164 h_1165 h_1166 h_1167 h_1169 h_1170 h_1171 h_1173 h_1174 h_1175 h_1177 h_1178 h_1179 h_1181 h_1182 h_1184 h_1185 h_1187 h_26 h_1030 h_1186; omega) | omega, (Int.le_trans (rg_eq hg_e1 h_1).2 (by decide))⟩ ?_
                  refine q_iconst rfl ?_
                  refine q_goto (t := 21) rfl (by decide) ?_
                  refine v_zret rfl rfl (by decide) ?_
                  refine bk_inl ?_
                  refine v_if_eq_f (t := 136) rfl (by decide) (by decide) ?_
                  refine q_aload_n rfl rfl ?_
                  have h_1193 := wv_bd (b := F) (r := (nx F e1 a)) (l := (ln F e1 (nx F e1 a))) (fun j h1 h2 => ⟨(ln_in (e := e1) (a := (nx F e1 a)) h1 h2).1, (ln_in (e := e1) (a := (nx F e1 a)) h1 h2).2.1⟩)
                  have h_1194 := wr8_2 (b := F) (r := (nx F e1 a)) (l := (ln F e1 (nx F e1 a))) (by omega) (fun j h1 h2 => ⟨(ln_in (e := e1) (a := (nx F e1 a)) h1 h2).1, (ln_in (e := e1) (a := (nx F e1 a)) h1 h2).2.1⟩) (by omega)
                  refine v_cv rfl rfl rfl rfl (by decide) ⟨⟨rfl, rfl⟩, by decide, rfl⟩ (Nat.le_of_ble_eq_true rfl) (Nat.le_of_ble_eq_true rfl) (f_157 (e1 := e1) (a9 := (nx F e1 a)) (B := H) (r8 := (nx F e1 a)) (L8 := (ln F e1 (nx F e1 a))) (W8 := (wv F (nx F e1 a) (ln F e1 (nx F e1 a)))) hI_1189 ((hid kn_1192)) ((h_1191)) (fun j => ((hF_1190 43 j (fun h => absurd h.1 (nn rfl))).trans (hFc 43 j (fun q => q.elim (fun h => absurd h.1 (nn rfl)) (fun q => q.elim (fun h => absurd h.1 (nn rfl)) (fun q => q.elim (fun h => absurd h.1 (nn rfl)) (fun q => q.elim (fun h => absurd h.1 (nn rfl)) (fun q => q.elim (fun h => absurd h.1 (nn rfl)) (fun q => q.elim (fun h => absurd h.1 (nn rfl)) (fun q => q.elim (fun h => absurd h.1 (nn rfl)) (fun q => q.elim (fun h => absurd h (nn rfl)) (fun q => q.elim (fun h => absurd h (nn rfl)) (fun h => absurd h (nn rfl))))))))))))).trans (hH j)) ((nx_tr hU (by first | (clear h_1 h_2 h_3 h_4 h_5 h_6 h_7 h_8 h_9 h_10 h_11 h_12 h_13 h_14 h_15 h_16 h_17 h_18 h_19 h_20 h_21 h_23 h_25 h_115 h_116 h_1045 h_1050 h_1159 h_1160 h_1161 h_1162 h_1163 h_1164 h_1165 h_1166 h_1167 h_1169 h_1170 h_1171 h_1173 h_1174 h_1175 h_1177 h_1178 h_1179 h_1181 h_1182 h_1184 h_1185 h_1187 h_1030; omega) | omega) (by first | (clear h_3 h_4 h_5 h_6 h_7 h_8 h_9 h_10 h_11 h_12 h_13 h_14 h_15 h_16 h_17 h_18 h_19 h_20 h_21 h_23 h_25 h_115 h_116 h_1045 h_1050 h_1159 h_1160 h_1161 h_1162 h_1163 h_1164 h_1165 h_1166 h_1167 h_1169 h_1170 h_1171 h_1173 h_1174 h_1175 h_1177 h_1178 h_1179 h_1181 h_1182 h_1184 h_1185 h_1187 h_1030; omega) | omega)).trans ((nx_z (by omega)))) ((ln_tr hU (by first | (clear h_1 h_2 h_3 h_4 h_5 h_6 h_7 h_8 h_9 h_10 h_11 h_12 h_13 h_14 h_15 h_16 h_17 h_18 h_19 h_20 h_21 h_23 h_25 h_115 h_116 h_1045 h_1050 h_1159 h_1160 h_1161 h_1162 h_1163 h_1164 h_1165 h_1166 h_1167 h_1169 h_1170 h_1171 h_1173 h_1174 h_1175 h_1177 h_1178 h_1179 h_1181 h_1182 h_1184 h_1185 h_1187 h_1030; omega) | omega) (by first | (clear h_3 h_4 h_5 h_6 h_7 h_8 h_9 h_10 h_11 h_12 h_13 h_14 h_15 h_16 h_17 h_18 h_19 h_20 h_21 h_23 h_25 h_115 h_116 h_1045 h_1050 h_1159 h_1160 h_1161 h_1162 h_1163 h_1164 h_1165 h_1166 h_1167 h_1169 h_1170 h_1171 h_1173 h_1174 h_1175 h_1177 h_1178 h_1179 h_1181 h_1182 h_1184 h_1185 h_1187 h_1030; omega) | omega)).trans (rfl)) ((wv_tr hU (by first | (clear h_1 h_2 h_3 h_4 h_5 h_6 h_7 h_8 h_9 h_10 h_11 h_12 h_13 h_14 h_15 h_16 h_17 h_18 h_19 h_20 h_21 h_23 h_25 h_115 h_116 h_1045 h_1050 h_1159 h_1160 h_1161 h_1162 h_1163 h_1164 h_1165 h_1166 h_1167 h_1169 h_1170 h_1171 h_1173 h_1174 h_1175 h_1177 h_1178 h_1179 h_1181 h_1182 h_1184 h_1185 h_1187 h_1193 h_1194 h_1030; omega) | omega) (by first | (clear h_3 h_4 h_5 h_6 h_7 h_8 h_9 h_10 h_11 h_12 h_13 h_14 h_15 h_16 h_17 h_18 h_19 h_20 h_21 h_23 h_25 h_115 h_116 h_1045 h_1050 h_1159 h_1160 h_1161 h_1162 h_1163 h_1164 h_1165 h_1166 h_1167 h_1169 h_1170 h_1171 h_1173 h_1174 h_1175 h_1177 h_1178 h_1179 h_1181 h_1182 h_1184 h_1185 h_1187 h_1193 h_1194 h_1030; omega) | omega) (fun j h1 h2 => ⟨(ln_in (e := e1) (a := (nx F e1 a)) h1 h2).1, (ln_in (e := e1) (a := (nx F e1 a)) h1 h2).2.1⟩)).trans (rfl)) (fun c_1195 hI_1196 hF_1197 hz_1198 => ?_))
                  refine bk_inl ?_
                  refine q_istore_n rfl (by decide) ?_
                  refine q_iload_n rfl rfl ?_
                  refine q_call rfl rfl rfl rfl ?_
                  refine q_iload_n rfl rfl ?_
                  refine q_ldc_s rfl rfl rfl (by decide) ?_
                  refine q_call rfl rfl rfl rfl (s_158_16 ?_)
                  refine bk_inl ?_
                  refine v_ic_eq_f (t := 36) rfl (by decide) ⟨by first | (clear h_1 h_2 h_3 h_4 h_5 h_6 h_7 h_8 h_9 h_10 h_11 h_12 h_13 h_14 h_15 h_16 h_17 h_18 h_19 h_20 h_21 h_23 h_24 h_25 h_96 h_115 h_116 h_1045 h_1050 h_1159 h_1160 h_1161 h_1162 h_1163 h_1164 h_1165 h_1166 h_1167 h_1169 h_1170 h_1171 h_1173 h_1174 h_1175 h_1177 h_1178 h_1179 h_1181 h_1182 h_1184 h_1185 h_1187 h_26 h_1030 h_1186; omega) | omega, ⟨by first | (clear h_1 h_2 h_3 h_4 h_5 h_6 h_7 h_8 h_9 h_10 h_11 h_12 h_13 h_14 h_15 h_16 h_17 h_18 h_19 h_20 h_21 h_23 h_24 h_25 h_96 h_115 h_116 h_1045 h_1050 h_1159 h_1160 h_1161 h_1162 h_1163 h_1164 h_1165 h_1166 h_1167 h_1169 h_1170 h_1171 h_1173 h_1174 h_1175 h_1177 h_1178 h_1179 h_1181 h_1182 h_1184 h_1185 h_1187 h_26 h_1030 h_1186; omega) | omega, by first | (clear h_1 h_2 h_3 h_4 h_5 h_6 h_7 h_8 h_9 h_10 h_11 h_12 h_13 h_14 h_15 h_16 h_17 h_18 h_19 h_20 h_21 h_23 h_24 h_25 h_96 h_115 h_116 h_1045 h_1050 h_1159 h_1160 h_1161 h_1162 h_1163 h_1164 h_1165 h_1166 h_1167 h_1169 h_1170 h_1171 h_1173 h_1174 h_1175 h_1177 h_1178 h_1179 h_1181 h_1182 h_1184 h_1185 h_1187 h_26 h_1030 h_1186; omega) | omega⟩, by decide, by decide⟩ ?_
                  refine q_iload_n rfl rfl ?_
                  refine q_ldc_s rfl rfl rfl (by decide) ?_
                  refine q_call rfl rfl rfl rfl (s_158_17 ?_)
                  refine bk_inl ?_
                  refine v_ic_eq_f (t := 36) rfl (by decide) ⟨by first | (clear h_1 h_2 h_3 h_4 h_5 h_6 h_7 h_8 h_9 h_10 h_11 h_12 h_13 h_14 h_15 h_16 h_17 h_18 h_19 h_20 h_21 h_23 h_24 h_25 h_96 h_115 h_116 h_1045 h_1050 h_1159 h_1160 h_1161 h_1162 h_1163 h_1164 h_1165 h_1166 h_1167 h_1169 h_1170 h_1171 h_1173 h_1174 h_1175 h_1177 h_1178 h_1179 h_1181 h_1182 h_1184 h_1185 h_1187 h_26 h_1030 h_1186; omega) | omega, ⟨by first | (clear h_1 h_2 h_3 h_4 h_5 h_6 h_7 h_8 h_9 h_10 h_11 h_12 h_13 h_14 h_15 h_16 h_17 h_18 h_19 h_20 h_21 h_23 h_24 h_25 h_96 h_115 h_116 h_1045 h_1050 h_1159 h_1160 h_1161 h_1162 h_1163 h_1164 h_1165 h_1166 h_1167 h_1169 h_1170 h_1171 h_1173 h_1174 h_1175 h_1177 h_1178 h_1179 h_1181 h_1182 h_1184 h_1185 h_1187 h_26 h_1030 h_1186; omega) | omega, by first | (clear h_1 h_2 h_3 h_4 h_5 h_6 h_7 h_8 h_9 h_10 h_11 h_12 h_13 h_14 h_15 h_16 h_17 h_18 h_19 h_20 h_21 h_23 h_24 h_25 h_96 h_115 h_116 h_1045 h_1050 h_1159 h_1160 h_1161 h_1162 h_1163 h_1164 h_1165 h_1166 h_1167 h_1169 h_1170 h_1171 h_1173 h_1174 h_1175 h_1177 h_1178 h_1179 h_1181 h_1182 h_1184 h_1185 h_1187 h_26 h_1030 h_1186; omega) | omega⟩, by decide, by decide⟩ ?_
                  refine q_iload_n rfl rfl ?_
                  refine q_ldc_s rfl rfl rfl (by decide) ?_
                  refine q_call rfl rfl rfl rfl (s_158_18 ?_)
                  refine bk_inl ?_
                  refine v_ic_eq_t (t := 36) rfl (by decide) (by first | (clear h_1 h_2 h_3 h_4 h_5 h_6 h_7 h_8 h_9 h_10 h_11 h_12 h_13 h_14 h_15 h_16 h_17 h_18 h_19 h_20 h_21 h_23 h_24 h_25 h_96 h_115 h_116 h_1045 h_1050 h_1159 h_1160 h_1161 h_1162 h_1163 h_1164 h_1165 h_1166 h_1167 h_1169 h_1170 h_1171 h_1173 h_1174 h_1175 h_1177 h_1178 h_1179 h_1181 h_1182 h_1184 h_1185 h_1187 h_26 h_1030 h_1186; omega) | omega) ?_
                  refine q_iconst rfl ?_
                  refine q_goto (t := 41) rfl (by decide) ?_
                  refine v_zret rfl rfl (by decide) ?_
                  refine bk_inl ?_
                  refine v_if_ne_t (t := 82) rfl (by decide) (by decide) ?_
                  refine q_iload_n rfl rfl ?_
                  refine v_bip rfl (by decide) ?_
                  refine v_ic_eq_f (t := 96) rfl (by decide) ⟨by first | (clear h_1 h_2 h_3 h_4 h_5 h_6 h_7 h_8 h_9 h_10 h_11 h_12 h_13 h_14 h_15 h_16 h_17 h_18 h_19 h_20 h_21 h_23 h_24 h_25 h_96 h_115 h_116 h_1045 h_1050 h_1159 h_1160 h_1161 h_1162 h_1163 h_1164 h_1165 h_1166 h_1167 h_1169 h_1170 h_1171 h_1173 h_1174 h_1175 h_1177 h_1178 h_1179 h_1181 h_1182 h_1184 h_1185 h_1187 h_1193 h_1194 h_26 h_1030 h_1186; omega) | omega, ⟨(Int.le_trans (by decide) hv.1), (Int.le_trans hv.2 (by decide))⟩, by decide, by decide⟩ ?_
                  refine q_aload_n rfl rfl ?_
                  refine q_iload_n rfl rfl ?_
                  refine v_cv rfl rfl rfl rfl (by decide) ⟨⟨rfl, rfl⟩, by decide, rfl⟩ (Nat.le_of_ble_eq_true rfl) (Nat.le_of_ble_eq_true rfl) ?_
                  refine q_iload_n rfl rfl ?_
                  refine q_ldc_s rfl rfl rfl (by decide) ?_
                  refine q_call rfl rfl rfl rfl (s_158_16 ?_)
                  refine bk_inl ?_
                  refine v_ic_ne_t (t := 26) rfl (by decide) ⟨by first | (clear h_1 h_2 h_3 h_4 h_5 h_6 h_7 h_8 h_9 h_10 h_11 h_12 h_13 h_14 h_15 h_16 h_17 h_18 h_19 h_20 h_21 h_23 h_24 h_25 h_96 h_115 h_116 h_1045 h_1050 h_1159 h_1160 h_1161 h_1162 h_1163 h_1164 h_1165 h_1166 h_1167 h_1169 h_1170 h_1171 h_1173 h_1174 h_1175 h_1177 h_1178 h_1179 h_1181 h_1182 h_1184 h_1185 h_1187 h_26 h_1030 h_1186; omega) | omega, ⟨by first | (clear h_1 h_2 h_3 h_4 h_5 h_6 h_7 h_8 h_9 h_10 h_11 h_12 h_13 h_14 h_15 h_16 h_17 h_18 h_19 h_20 h_21 h_23 h_24 h_25 h_96 h_115 h_116 h_1045 h_1050 h_1159 h_1160 h_1161 h_1162 h_1163 h_1164 h_1165 h_1166 h_1167 h_1169 h_1170 h_1171 h_1173 h_1174 h_1175 h_1177 h_1178 h_1179 h_1181 h_1182 h_1184 h_1185 h_1187 h_26 h_1030 h_1186; omega) | omega, by first | (clear h_1 h_2 h_3 h_4 h_5 h_6 h_7 h_8 h_9 h_10 h_11 h_12 h_13 h_14 h_15 h_16 h_17 h_18 h_19 h_20 h_21 h_23 h_24 h_25 h_96 h_115 h_116 h_1045 h_1050 h_1159 h_1160 h_1161 h_1162 h_1163 h_1164 h_1165 h_1166 h_1167 h_1169 h_1170 h_1171 h_1173 h_1174 h_1175 h_1177 h_1178 h_1179 h_1181 h_1182 h_1184 h_1185 h_1187 h_26 h_1030 h_1186; omega) | omega⟩, by decide, by decide⟩ ?_
                  refine q_iload_n rfl rfl ?_
                  refine q_ldc_s rfl rfl rfl (by decide) ?_
                  refine q_call rfl rfl rfl rfl (s_158_17 ?_)
                  refine bk_inl ?_
                  refine v_ic_ne_t (t := 51) rfl (by decide) ⟨by first | (clear h_1 h_2 h_3 h_4 h_5 h_6 h_7 h_8 h_9 h_10 h_11 h_12 h_13 h_14 h_15 h_16 h_17 h_18 h_19 h_20 h_21 h_23 h_24 h_25 h_96 h_115 h_116 h_1045 h_1050 h_1159 h_1160 h_1161 h_1162 h_1163 h_1164 h_1165 h_1166 h_1167 h_1169 h_1170 h_1171 h_1173 h_1174 h_1175 h_1177 h_1178 h_1179 h_1181 h_1182 h_1184 h_1185 h_1187 h_26 h_1030 h_1186; omega) | omega, ⟨by first | (clear h_1 h_2 h_3 h_4 h_5 h_6 h_7 h_8 h_9 h_10 h_11 h_12 h_13 h_14 h_15 h_16 h_17 h_18 h_19 h_20 h_21 h_23 h_24 h_25 h_96 h_115 h_116 h_1045 h_1050 h_1159 h_1160 h_1161 h_1162 h_1163 h_1164 h_1165 h_1166 h_1167 h_1169 h_1170 h_1171 h_1173 h_1174 h_1175 h_1177 h_1178 h_1179 h_1181 h_1182 h_1184 h_1185 h_1187 h_26 h_1030 h_1186; omega) | omega, by first | (clear h_1 h_2 h_3 h_4 h_5 h_6 h_7 h_8 h_9 h_10 h_11 h_12 h_13 h_14 h_15 h_16 h_17 h_18 h_19 h_20 h_21 h_23 h_24 h_25 h_96 h_115 h_116 h_1045 h_1050 h_1159 h_1160 h_1161 h_1162 h_1163 h_1164 h_1165 h_1166 h_1167 h_1169 h_1170 h_1171 h_1173 h_1174 h_1175 h_1177 h_1178 h_1179 h_1181 h_1182 h_1184 h_1185 h_1187 h_26 h_1030 h_1186; omega) | omega⟩, by decide, by decide⟩ ?_
                  refine q_iload_n rfl rfl ?_
                  refine q_ldc_s rfl rfl rfl (by decide) ?_
                  refine q_call rfl rfl rfl rfl (s_158_18 ?_)
                  refine bk_inl ?_
                  refine v_ic_ne_f (t := 72) rfl (by decide) (by first | (clear h_1 h_2 h_3 h_4 h_5 h_6 h_7 h_8 h_9 h_10 h_11 h_12 h_13 h_14 h_15 h_16 h_17 h_18 h_19 h_20 h_21 h_23 h_24 h_25 h_96 h_115 h_116 h_1045 h_1050 h_1159 h_1160 h_1161 h_1162 h_1163 h_1164 h_1165 h_1166 h_1167 h_1169 h_1170 h_1171 h_1173 h_1174 h_1175 h_1177 h_1178 h_1179 h_1181 h_1182 h_1184 h_1185 h_1187 h_26 h_1030 h_1186; omega) | omega) ?_
                  refine q_aload_n rfl rfl ?_
                  have kn_1199 : Hid (c_1188 41 18 = si) := (hF_1190 41 18 (fun h => absurd h.2 (ni rfl))).trans (hr_si)
                  have kn_1200 : Hid (c_1195 41 18 = si) := (hF_1197 41 18 (fun h => absurd h.2 (ni rfl))).trans (hid kn_1199)
                  refine v_gi (z := 18) (v := si) rfl rfl rfl (by decide) rfl rfl (hid kn_1200) ?_
                  refine q_iconst rfl ?_
                  refine v_ic_ne_t (t := 72) rfl (by decide) ⟨by first | (clear h_1 h_2 h_3 h_4 h_5 h_6 h_7 h_8 h_9 h_10 h_11 h_12 h_13 h_14 h_17 h_18 h_19 h_20 h_21 h_23 h_24 h_25 h_96 h_115 h_116 h_1045 h_1050 h_1159 h_1160 h_1161 h_1162 h_1163 h_1164 h_1165 h_1166 h_1167 h_1169 h_1170 h_1171 h_1173 h_1174 h_1175 h_1177 h_1178 h_1179 h_1181 h_1182 h_1184 h_1185 h_1187 h_1193 h_1194 h_26 h_1186; omega) | omega, ⟨(Int.le_trans (by decide) hsi.1), (Int.le_trans hsi.2 (by decide))⟩, by decide, by decide⟩ ?_
                  refine q_iconst rfl ?_
                  refine v_zret rfl rfl (by decide) ?_
                  refine bk_inl ?_
                  refine v_if_eq_t (t := 105) rfl (by decide) (by decide) ?_
                  refine q_aload_n rfl rfl ?_
                  refine v_cv rfl rfl rfl rfl (by decide) ⟨⟨rfl, rfl⟩, by decide, rfl⟩ (Nat.le_of_ble_eq_true rfl) (Nat.le_of_ble_eq_true rfl) ?_
                  refine q_aload_n rfl rfl ?_
                  have kn_1201 : Hid (c_1188 41 5 = (-1)) := (hF_1190 41 5 (fun h => absurd h.2 (ni rfl))).trans (hc_1)
                  have kn_1202 : Hid (c_1195 41 5 = (-1)) := (hF_1197 41 5 (fun h => absurd h.2 (ni rfl))).trans (hid kn_1201)
                  refine v_gi (z := 5) (v := (-1)) rfl rfl rfl (by decide) rfl rfl (hid kn_1202) ?_
                  refine q_iconst rfl ?_
                  refine v_ic_ne_f (t := 12) rfl (by decide) (by decide) ?_
                  refine q_iconst rfl ?_
                  refine q_goto (t := 13) rfl (by decide) ?_
                  refine v_zret rfl rfl (by decide) ?_
                  refine bk_inl ?_
                  refine v_if_ne_t (t := 115) rfl (by decide) (by decide) ?_
                  refine q_aload_n rfl rfl ?_
                  have kn_1203 : Hid (c_1195 41 3 = e1) := (hF_1197 41 3 (fun h => absurd h.2 (ni rfl))).trans (hid kn_1192)
                  refine v_cv rfl rfl rfl rfl (by decide) ⟨⟨rfl, rfl⟩, by decide, rfl⟩ (Nat.le_of_ble_eq_true rfl) (Nat.le_of_ble_eq_true rfl) (f_159 (e1 := e1) (a9 := (nx F e1 a)) (B := H) (L8 := (ln F e1 (nx F e1 a))) hI_1196 ((hid kn_1203)) ((hz_1198)) (fun j => ((hF_1197 43 j (fun h => absurd h.1 (nn rfl))).trans ((hF_1190 43 j (fun h => absurd h.1 (nn rfl))).trans (hFc 43 j (fun q => q.elim (fun h => absurd h.1 (nn rfl)) (fun q => q.elim (fun h => absurd h.1 (nn rfl)) (fun q => q.elim (fun h => absurd h.1 (nn rfl)) (fun q => q.elim (fun h => absurd h.1 (nn rfl)) (fun q => q.elim (fun h => absurd h.1 (nn rfl)) (fun q => q.elim (fun h => absurd h.1 (nn rfl)) (fun q => q.elim (fun h => absurd h.1 (nn rfl)) (fun q => q.elim (fun h => absurd h (nn rfl)) (fun q => q.elim (fun h => absurd h (nn rfl)) (fun h => absurd h (nn rfl)))))))))))))).trans (hH j)) ((ln_tr hU (by first | (clear h_1 h_2 h_3 h_4 h_5 h_6 h_7 h_8 h_9 h_10 h_11 h_12 h_13 h_14 h_15 h_16 h_17 h_18 h_19 h_20 h_21 h_23 h_25 h_115 h_116 h_1045 h_1050 h_1159 h_1160 h_1161 h_1162 h_1163 h_1164 h_1165 h_1166 h_1167 h_1169 h_1170 h_1171 h_1173 h_1174 h_1175 h_1177 h_1178 h_1179 h_1181 h_1182 h_1184 h_1185 h_1187 h_1193 h_1194 h_1030; omega) | omega) (by first | (clear h_3 h_4 h_5 h_6 h_7 h_8 h_9 h_10 h_11 h_12 h_13 h_14 h_15 h_16 h_17 h_18 h_19 h_20 h_21 h_23 h_25 h_115 h_116 h_1045 h_1050 h_1159 h_1160 h_1161 h_1162 h_1163 h_1164 h_1165 h_1166 h_1167 h_1169 h_1170 h_1171 h_1173 h_1174 h_1175 h_1177 h_1178 h_1179 h_1181 h_1182 h_1184 h_1185 h_1187 h_1193 h_1194 h_1030; omega) | omega)).trans (rfl)) (fun c_1204 hI_1205 hF_1206 hz_1207 => ?_))
                  refine bk_inl ?_
                  refine q_aload_n rfl rfl ?_
                  refine q_iload_n rfl rfl ?_
                  have hw_1208 : (wv F (nx F e1 a) (ln F e1 (nx F e1 a))) = 20223685 := by omega
                  rw [hw_1208]
                  have kn_1209 : Hid (c_112 1 1 = e1) := (hF_114 1 1 (fun q => q.elim (fun h => absurd h.2 (ni rfl)) (fun q => q.elim (fun h => absurd h.2 (ni rfl)) (fun h => absurd h.2 (ni rfl))))).trans (hid kn_91)
                  have kn_1210 : Hid (c_1204 41 3 = e1) := (hF_1206 41 3 (fun h => absurd h.2 (ni rfl))).trans (hid kn_1203)
                  have kn_1211 : Hid (c_1188 41 16 = jr) := (hF_1190 41 16 (fun h => absurd h.2 (ni rfl))).trans (hr_jr)
                  have kn_1212 : Hid (c_1195 41 16 = jr) := (hF_1197 41 16 (fun h => absurd h.2 (ni rfl))).trans (hid kn_1211)
                  have kn_1213 : Hid (c_1204 41 16 = jr) := (hF_1206 41 16 (fun h => absurd h.2 (ni rfl))).trans (hid kn_1212)
                  have kn_1214 : Hid (c_1188 41 17 = st) := (hF_1190 41 17 (fun h => absurd h.2 (ni rfl))).trans (hr_st)
                  have kn_1215 : Hid (c_1195 41 17 = st) := (hF_1197 41 17 (fun h => absurd h.2 (ni rfl))).trans (hid kn_1214)
                  have kn_1216 : Hid (c_1204 41 17 = st) := (hF_1206 41 17 (fun h => absurd h.2 (ni rfl))).trans (hid kn_1215)
                  have kn_1217 : Hid (c_1204 41 18 = si) := (hF_1206 41 18 (fun h => absurd h.2 (ni rfl))).trans (hid kn_1200)
                  have kn_1218 : Hid (c_27 A 3 = du) := (hF_29 A 3 (fun h => absurd h.1 (np0 hA rfl))).trans (hg_du)
                  have kn_1219 : Hid (c_87 A 3 = du) := (hF_89 A 3 (fun h => absurd h.1 (np0 hA rfl))).trans (hid kn_1218)
                  have kn_1220 : Hid (c_112 A 3 = du) := (hF_114 A 3 (fun q => q.elim (fun h => absurd h.1 (np0 hA rfl)) (fun q => q.elim (fun h => absurd h.1 (np0 hA rfl)) (fun h => absurd h.1 (np0 hA rfl))))).trans (hid kn_1219)
                  have kn_1221 : Hid (c_1188 41 19 = du) := (hF_1190 41 19 (fun h => absurd h.2 (ni rfl))).trans (hr_du)
                  have kn_1222 : Hid (c_1195 41 19 = du) := (hF_1197 41 19 (fun h => absurd h.2 (ni rfl))).trans (hid kn_1221)
                  have kn_1223 : Hid (c_1204 41 19 = du) := (hF_1206 41 19 (fun h => absurd h.2 (ni rfl))).trans (hid kn_1222)
                  have h_1224 : c_112 1 4 = 0 := (hz_118)
                  have h_1225 : c_112 1 2 = (ln F e1 (nx F e1 a)) := (hz_117)
                  have h_1226 : c_112 1 5 = (-1) := (hz_119)
                  have kn_1227 : Hid (c_1204 41 5 = (-1)) := (hF_1206 41 5 (fun h => absurd h.2 (ni rfl))).trans (hid kn_1202)
                  have h_1228 : c_1204 41 5 = (-1) := (hid kn_1227)
                  have h_1229 : c_1204 41 4 = (ln F e1 (nx F e1 a)) := (hz_1207)
                  have h_1230 := ir_41_6 hI2
                  have kn_1231 : Hid (c_1188 41 6 = c2 41 6) := hF_1190 41 6 (fun h => absurd h.2 (ni rfl))
                  have kn_1232 : Hid (c_1195 41 6 = c2 41 6) := (hF_1197 41 6 (fun h => absurd h.2 (ni rfl))).trans (hid kn_1231)
                  have kn_1233 : Hid (c_1204 41 6 = c2 41 6) := (hF_1206 41 6 (fun h => absurd h.2 (ni rfl))).trans (hid kn_1232)
                  have h_1234 : c_1204 41 6 = c2 41 6 := (hid kn_1233)
                  have hA_1235 : Ae (4 * jr) (c_112 (A + 1)) (c_1204 44) := ae_fr hrl0 (fun j => (hF_114 (A + 1) j (fun q => q.elim (fun h => absurd h.1 (np hA rfl rfl)) (fun q => q.elim (fun h => absurd h.1 (np hA rfl rfl)) (fun h => absurd h.1 (np hA rfl rfl))))).trans ((hF_89 (A + 1) j (fun h => absurd h.1 (np hA rfl rfl))).trans (hF_29 (A + 1) j (fun h => absurd h.1 (np hA rfl rfl))))) (fun j => (hF_1206 44 j (fun h => absurd h.1 (nn rfl))).trans ((hF_1197 44 j (fun h => absurd h.1 (nn rfl))).trans (hF_1190 44 j (fun h => absurd h.1 (nn rfl)))))
                  have hA_1236 : Ae (3 * st) (c_112 (A + 2)) (c_1204 45) := ae_fr hrl1 (fun j => (hF_114 (A + 2) j (fun q => q.elim (fun h => absurd h.1 (np hA rfl rfl)) (fun q => q.elim (fun h => absurd h.1 (np hA rfl rfl)) (fun h => absurd h.1 (np hA rfl rfl))))).trans ((hF_89 (A + 2) j (fun h => absurd h.1 (np hA rfl rfl))).trans (hF_29 (A + 2) j (fun h => absurd h.1 (np hA rfl rfl))))) (fun j => (hF_1206 45 j (fun h => absurd h.1 (nn rfl))).trans ((hF_1197 45 j (fun h => absurd h.1 (nn rfl))).trans (hF_1190 45 j (fun h => absurd h.1 (nn rfl)))))
                  have hA_1237 : Ae si (c_112 (A + 3)) (c_1204 46) := ae_fr hrl2 (fun j => (hF_114 (A + 3) j (fun q => q.elim (fun h => absurd h.1 (np hA rfl rfl)) (fun q => q.elim (fun h => absurd h.1 (np hA rfl rfl)) (fun h => absurd h.1 (np hA rfl rfl))))).trans ((hF_89 (A + 3) j (fun h => absurd h.1 (np hA rfl rfl))).trans (hF_29 (A + 3) j (fun h => absurd h.1 (np hA rfl rfl))))) (fun j => (hF_1206 46 j (fun h => absurd h.1 (nn rfl))).trans ((hF_1197 46 j (fun h => absurd h.1 (nn rfl))).trans (hF_1190 46 j (fun h => absurd h.1 (nn rfl)))))
                  refine v_cv rfl rfl rfl rfl (by decide) ⟨⟨rfl, rfl⟩, by decide, rfl⟩ (Nat.le_of_ble_eq_true rfl) (Nat.le_of_ble_eq_true rfl) (L_33a_2 (m := c_112) (e1 := e1) (jr := jr) (st := st) (si := si) (du := du) (F := F) (H := H) hI_1205 hI_113 hI_1042 hA (by first | (clear h_1 h_2 h_3 h_4 h_5 h_6 h_7 h_8 h_9 h_10 h_11 h_12 h_13 h_14 h_17 h_18 h_19 h_20 h_21 h_23 h_24 h_25 h_96 h_115 h_116 h_1045 h_1050 h_1159 h_1160 h_1161 h_1162 h_1163 h_1164 h_1165 h_1166 h_1167 h_1169 h_1170 h_1171 h_1173 h_1174 h_1175 h_1177 h_1178 h_1179 h_1181 h_1182 h_1184 h_1185 h_1187 h_1193 h_1194 h_26 h_1186; omega) | omega) ((hid kn_1209)) ((hid kn_1210)) ((hid kn_1034)) ((hid kn_1213)) ((hid kn_1038)) ((hid kn_1216)) ((hid kn_1029)) ((hid kn_1217)) ((hid kn_1220)) ((hid kn_1223)) (fun j => ((hF_114 2 j (fun q => q.elim (fun h => absurd h.1 (nn rfl)) (fun q => q.elim (fun h => absurd h.1 (nn rfl)) (fun h => absurd h.1 (nn rfl))))).trans ((hF_89 2 j (fun h => absurd h.1 (nn rfl))).trans ((hF_29 2 j (fun h => absurd h.1 (nn rfl))).trans (hFm 2 j (fun q => q.elim (fun h => absurd h.1 (nn rfl)) (fun q => q.elim (fun h => absurd h.1 (nn rfl)) (fun q => q.elim (fun h => absurd h.1 (nn rfl)) (fun q => q.elim (fun h => absurd h.1 (pn0 hA rfl)) (fun q => q.elim (fun h => absurd h.1 (pn0 hA rfl)) (fun q => q.elim (fun h => absurd h.1 (pn0 hA rfl)) (fun q => q.elim (fun h => absurd h.1 (pn0 hA rfl)) (fun q => q.elim (fun h => absurd h (pn hA rfl rfl)) (fun q => q.elim (fun h => absurd h (pn hA rfl rfl)) (fun q => q.elim (fun h => absurd h (pn hA rfl rfl)) (fun q => q.elim (fun h => absurd h.1 (pn0 hA rfl)) (fun q => q.elim (fun h => absurd h.1 (pn0 hA rfl)) (fun q => q.elim (fun h => absurd h (pn hA rfl rfl)) (fun h => absurd h.1 (pn hA rfl rfl))))))))))))))))))).trans (hF j)) (fun j => ((hF_1206 43 j (fun h => absurd h.1 (nn rfl))).trans ((hF_1197 43 j (fun h => absurd h.1 (nn rfl))).trans ((hF_1190 43 j (fun h => absurd h.1 (nn rfl))).trans (hFc 43 j (fun q => q.elim (fun h => absurd h.1 (nn rfl)) (fun q => q.elim (fun h => absurd h.1 (nn rfl)) (fun q => q.elim (fun h => absurd h.1 (nn rfl)) (fun q => q.elim (fun h => absurd h.1 (nn rfl)) (fun q => q.elim (fun h => absurd h.1 (nn rfl)) (fun q => q.elim (fun h => absurd h.1 (nn rfl)) (fun q => q.elim (fun h => absurd h.1 (nn rfl)) (fun q => q.elim (fun h => absurd h (nn rfl)) (fun q => q.elim (fun h => absurd h (nn rfl)) (fun h => absurd h (nn rfl))))))))))))))).trans (hH j)) hU (rt_i1 ⟨by first | (clear h_1 h_2 h_3 h_4 h_5 h_6 h_7 h_8 h_9 h_10 h_11 h_12 h_13 h_14 h_15 h_16 h_17 h_18 h_19 h_20 h_21 h_23 h_24 h_25 h_96 h_115 h_116 h_1045 h_1050 h_1159 h_1160 h_1161 h_1162 h_1163 h_1164 h_1165 h_1166 h_1167 h_1169 h_1170 h_1171 h_1173 h_1174 h_1175 h_1177 h_1178 h_1179 h_1181 h_1182 h_1184 h_1185 h_1187 h_1193 h_1194 h_1230 h_26 h_1030 h_1186; omega) | omega, by first | (clear h_1 h_2 h_3 h_4 h_5 h_6 h_7 h_8 h_9 h_10 h_11 h_12 h_13 h_14 h_15 h_16 h_17 h_18 h_19 h_20 h_21 h_23 h_24 h_25 h_96 h_115 h_116 h_1045 h_1050 h_1159 h_1160 h_1161 h_1162 h_1163 h_1164 h_1165 h_1166 h_1167 h_1169 h_1170 h_1171 h_1173 h_1174 h_1175 h_1177 h_1178 h_1179 h_1181 h_1182 h_1184 h_1185 h_1187 h_1193 h_1194 h_1230 h_26 h_1030 h_1186; omega) | omega, by first | (clear h_1 h_2 h_3 h_4 h_5 h_6 h_7 h_8 h_9 h_10 h_11 h_12 h_13 h_14 h_15 h_16 h_17 h_18 h_19 h_20 h_21 h_23 h_24 h_25 h_96 h_115 h_116 h_1045 h_1050 h_1159 h_1160 h_1161 h_1162 h_1163 h_1164 h_1165 h_1166 h_1167 h_1169 h_1170 h_1171 h_1173 h_1174 h_1175 h_1177 h_1178 h_1179 h_1181 h_1182 h_1184 h_1185 h_1187 h_1193 h_1194 h_1230 h_26 h_1030 h_1186; omega) | omega, by first | (clear h_1 h_2 h_3 h_4 h_5 h_6 h_7 h_8 h_9 h_10 h_11 h_12 h_13 h_14 h_15 h_16 h_17 h_18 h_19 h_20 h_21 h_23 h_24 h_25 h_96 h_115 h_116 h_1045 h_1050 h_1159 h_1160 h_1161 h_1162 h_1163 h_1164 h_1165 h_1166 h_1167 h_1169 h_1170 h_1171 h_1173 h_1174 h_1175 h_1177 h_1178 h_1179 h_1181 h_1182 h_1184 h_1185 h_1187 h_1193 h_1194 h_1230 h_26 h_1030 h_1186; omega) | omega⟩) (ae_le hA_1235 (by omega)) (ae_le hA_1236 (by omega)) (ae_le hA_1237 (by omega)) hG_1044 (fun c_1238 hI_1239 hF_1240 hR_1242 h_1243 h_1244 h_1245 h_1246 hA_1247 hA_1248 hA_1249 => ?_))
                  refine bk_inl ?_
                  have h_1250 := ir_41_16 hI_1239
                  have h_1251 := ir_41_17 hI_1239
                  have h_1252 := ir_41_18 hI_1239
                  have h_1253 := ir_41_19 hI_1239
                  refine q_aload_n rfl rfl ?_
                  refine v_bip rfl (by decide) ?_
                  have kn_1254 : Hid (c_1041 1 1 = e1) := (hF_1043 1 1 (fun q => q.elim (fun h => absurd h.2 (ni rfl)) (fun q => q.elim (fun h => absurd h.2 (ni rfl)) (fun q => q.elim (fun h => absurd h.2 (ni rfl)) (fun q => q.elim (fun h => absurd h.1 (pn0 hA rfl)) (fun q => q.elim (fun h => absurd h.1 (pn0 hA rfl)) (fun q => q.elim (fun h => absurd h.1 (pn0 hA rfl)) (fun q => q.elim (fun h => absurd h.1 (pn0 hA rfl)) (fun q => q.elim (fun h => absurd h (pn hA rfl rfl)) (fun q => q.elim (fun h => absurd h (pn hA rfl rfl)) (fun h => absurd h (pn hA rfl rfl)))))))))))).trans (hid kn_1209)
                  have kn_1255 : Hid (c_1238 41 3 = e1) := (hF_1240 41 3 (fun q => q.elim (fun h => absurd h.2 (ni rfl)) (fun q => q.elim (fun h => absurd h.2 (ni rfl)) (fun q => q.elim (fun h => absurd h.2 (ni rfl)) (fun q => q.elim (fun h => absurd h.2 (ni rfl)) (fun q => q.elim (fun h => absurd h.2 (ni rfl)) (fun q => q.elim (fun h => absurd h.2 (ni rfl)) (fun q => q.elim (fun h => absurd h.2 (ni rfl)) (fun q => q.elim (fun h => absurd h (nn rfl)) (fun q => q.elim (fun h => absurd h (nn rfl)) (fun h => absurd h (nn rfl)))))))))))).trans (hid kn_1210)
                  have h_1256 := ir_1_2 hI_1042
                  refine v_cv rfl rfl rfl rfl (by decide) ⟨⟨rfl, rfl⟩, by decide, rfl⟩ (Nat.le_of_ble_eq_true rfl) (Nat.le_of_ble_eq_true rfl) (L_11_9 (m := c_1041) (e1 := e1) (a9 := c_1041 1 2) (f0 := c_1041 1 4) (F := F) (H := H) hI_1239 hI_1042 hI_1047 ((hid kn_1254)) ((hid kn_1255)) (rfl) (rfl) (fun j => ((hF_1043 2 j (fun q => q.elim (fun h => absurd h.1 (nn rfl)) (fun q => q.elim (fun h => absurd h.1 (nn rfl)) (fun q => q.elim (fun h => absurd h.1 (nn rfl)) (fun q => q.elim (fun h => absurd h.1 (pn0 hA rfl)) (fun q => q.elim (fun h => absurd h.1 (pn0 hA rfl)) (fun q => q.elim (fun h => absurd h.1 (pn0 hA rfl)) (fun q => q.elim (fun h => absurd h.1 (pn0 hA rfl)) (fun q => q.elim (fun h => absurd h (pn hA rfl rfl)) (fun q => q.elim (fun h => absurd h (pn hA rfl rfl)) (fun h => absurd h (pn hA rfl rfl)))))))))))).trans ((hF_114 2 j (fun q => q.elim (fun h => absurd h.1 (nn rfl)) (fun q => q.elim (fun h => absurd h.1 (nn rfl)) (fun h => absurd h.1 (nn rfl))))).trans ((hF_89 2 j (fun h => absurd h.1 (nn rfl))).trans ((hF_29 2 j (fun h => absurd h.1 (nn rfl))).trans (hFm 2 j (fun q => q.elim (fun h => absurd h.1 (nn rfl)) (fun q => q.elim (fun h => absurd h.1 (nn rfl)) (fun q => q.elim (fun h => absurd h.1 (nn rfl)) (fun q => q.elim (fun h => absurd h.1 (pn0 hA rfl)) (fun q => q.elim (fun h => absurd h.1 (pn0 hA rfl)) (fun q => q.elim (fun h => absurd h.1 (pn0 hA rfl)) (fun q => q.elim (fun h => absurd h.1 (pn0 hA rfl)) (fun q => q.elim (fun h => absurd h (pn hA rfl rfl)) (fun q => q.elim (fun h => absurd h (pn hA rfl rfl)) (fun q => q.elim (fun h => absurd h (pn hA rfl rfl)) (fun q => q.elim (fun h => absurd h.1 (pn0 hA rfl)) (fun q => q.elim (fun h => absurd h.1 (pn0 hA rfl)) (fun q => q.elim (fun h => absurd h (pn hA rfl rfl)) (fun h => absurd h.1 (pn hA rfl rfl)))))))))))))))))))).trans (hF j)) (fun j => ((hF_1240 43 j (fun q => q.elim (fun h => absurd h.1 (nn rfl)) (fun q => q.elim (fun h => absurd h.1 (nn rfl)) (fun q => q.elim (fun h => absurd h.1 (nn rfl)) (fun q => q.elim (fun h => absurd h.1 (nn rfl)) (fun q => q.elim (fun h => absurd h.1 (nn rfl)) (fun q => q.elim (fun h => absurd h.1 (nn rfl)) (fun q => q.elim (fun h => absurd h.1 (nn rfl)) (fun q => q.elim (fun h => absurd h (nn rfl)) (fun q => q.elim (fun h => absurd h (nn rfl)) (fun h => absurd h (nn rfl)))))))))))).trans ((hF_1206 43 j (fun h => absurd h.1 (nn rfl))).trans ((hF_1197 43 j (fun h => absurd h.1 (nn rfl))).trans ((hF_1190 43 j (fun h => absurd h.1 (nn rfl))).trans (hFc 43 j (fun q => q.elim (fun h => absurd h.1 (nn rfl)) (fun q => q.elim (fun h => absurd h.1 (nn rfl)) (fun q => q.elim (fun h => absurd h.1 (nn rfl)) (fun q => q.elim (fun h => absurd h.1 (nn rfl)) (fun q => q.elim (fun h => absurd h.1 (nn rfl)) (fun q => q.elim (fun h => absurd h.1 (nn rfl)) (fun q => q.elim (fun h => absurd h.1 (nn rfl)) (fun q => q.elim (fun h => absurd h (nn rfl)) (fun q => q.elim (fun h => absurd h (nn rfl)) (fun h => absurd h (nn rfl)))))))))))))))).trans (hH j)) hU hR_1242 hG_1049 (fun c_1257 hI_1258 hF_1259 hR_1261 h_1262 h_1263 => ?_))
                  refine bk_inl ?_
                  refine v_iinc (v := v + 1) rfl rfl (by decide) rfl ?_
                  refine q_goto (t := 44) rfl (by decide) ?_
                  refine q_aload_n rfl rfl ?_
                  refine v_cv rfl rfl rfl rfl (by decide) ⟨⟨rfl, rfl⟩, by decide, rfl⟩ (Nat.le_of_ble_eq_true rfl) (Nat.le_of_ble_eq_true rfl) ?_
                  refine q_aload_n rfl rfl ?_
                  have h_1264 := ir_41_5 hI_1258
                  have h_1265 := ir_41_4 hI_1258
                  have h_1266 := ir_41_6 hI_1258
                  have h_1267 := rt_bad hR_1261 (by omega)
                  have hrb_hR_1261 := rt_bad hR_1261 (by omega)
                  refine v_gi (z := 5) (v := c_1046 1 5) rfl rfl rfl (by decide) rfl rfl hrb_hR_1261.2.1 ?_
                  refine q_iconst rfl ?_
                  refine v_ic_ne_t (t := 12) rfl (by decide) ⟨by first | (clear h_1 h_2 h_3 h_4 h_5 h_6 h_7 h_8 h_9 h_10 h_11 h_12 h_13 h_14 h_15 h_16 h_17 h_18 h_19 h_20 h_21 h_23 h_24 h_25 h_96 h_115 h_116 h_1045 h_1050 h_1159 h_1160 h_1161 h_1162 h_1163 h_1165 h_1167 h_1169 h_1170 h_1171 h_1173 h_1174 h_1175 h_1177 h_1178 h_1179 h_1181 h_1182 h_1184 h_1185 h_1187 h_1193 h_1194 h_1230 h_1250 h_1243 h_1251 h_1244 h_1252 h_1245 h_1253 h_1246 h_1256 h_1264 h_1265 h_1266 h_26 h_1030 h_1186 h_1262 h_1263; omega) | omega, ⟨(Int.le_trans (by decide) h_1164.1), (Int.le_trans h_1164.2 (by decide))⟩, by decide, by decide⟩ ?_
                  refine q_iconst rfl ?_
                  refine v_zret rfl rfl (by decide) ?_
                  refine bk_inl ?_
                  refine v_if_eq_t (t := 136) rfl (by decide) (by decide) ?_
                  refine Wp_ls [(0, .ref 41), (1, vi a1)] (lsub_cons rfl (lsub_cons rfl lsub_nil)) ?_
                  have h_1268 : c_1257 41 5 = c_1046 1 5 := hrb_hR_1261.2.1
                  have h_1269 : c_1257 41 6 = c_1046 1 4 := hrb_hR_1261.2.2.2
                  have kn_1270 : Hid (c_1257 41 16 = c_1238 41 16) := hF_1259 41 16 (fun q => q.elim (fun h => absurd h.2 (ni rfl)) (fun q => q.elim (fun h => absurd h.2 (ni rfl)) (fun h => absurd h.2 (ni rfl))))
                  have h_1271 : c_1257 41 16 = c_1238 41 16 := (hid kn_1270)
                  have kn_1272 : Hid (c_1257 41 17 = c_1238 41 17) := hF_1259 41 17 (fun q => q.elim (fun h => absurd h.2 (ni rfl)) (fun q => q.elim (fun h => absurd h.2 (ni rfl)) (fun h => absurd h.2 (ni rfl))))
                  have h_1273 : c_1257 41 17 = c_1238 41 17 := (hid kn_1272)
                  have kn_1274 : Hid (c_1257 41 18 = c_1238 41 18) := hF_1259 41 18 (fun q => q.elim (fun h => absurd h.2 (ni rfl)) (fun q => q.elim (fun h => absurd h.2 (ni rfl)) (fun h => absurd h.2 (ni rfl))))
                  have h_1275 : c_1257 41 18 = c_1238 41 18 := (hid kn_1274)
                  have kn_1276 : Hid (c_1257 41 19 = c_1238 41 19) := hF_1259 41 19 (fun q => q.elim (fun h => absurd h.2 (ni rfl)) (fun q => q.elim (fun h => absurd h.2 (ni rfl)) (fun h => absurd h.2 (ni rfl))))
                  have h_1277 : c_1257 41 19 = c_1238 41 19 := (hid kn_1276)
                  have h_1278 : c_1257 41 16 = c_1238 41 16 := (hid kn_1270)
                  have h_1279 : c_1257 41 17 = c_1238 41 17 := (hid kn_1272)
                  have h_1280 : c_1257 41 18 = c_1238 41 18 := (hid kn_1274)
                  exact K c_1257  hI_1258 (fun a j hm => (hF_1259 a j (fun q => q.elim (fun h => hm (Or.inl h)) (fun q => q.elim (fun h => hm (Or.inr (Or.inl h))) (fun h => hm (Or.inr (Or.inr (Or.inl h))))))).trans ((hF_1240 a j (fun q => q.elim (fun h => hm (Or.inl h)) (fun q => q.elim (fun h => hm (Or.inr (Or.inl h))) (fun q => q.elim (fun h => hm (Or.inr (Or.inr (Or.inl h)))) (fun q => q.elim (fun h => hm (Or.inr (Or.inr (Or.inr (Or.inl h))))) (fun q => q.elim (fun h => hm (Or.inr (Or.inr (Or.inr (Or.inr (Or.inl h)))))) (fun q => q.elim (fun h => hm (Or.inr (Or.inr (Or.inr (Or.inr (Or.inr (Or.inl h))))))) (fun q => q.elim (fun h => hm (Or.inr (Or.inr (Or.inr (Or.inr (Or.inr (Or.inr (Or.inl h)))))))) (fun q => q.elim (fun h => hm (Or.inr (Or.inr (Or.inr (Or.inr (Or.inr (Or.inr (Or.inr (Or.inl h))))))))) (fun q => q.elim (fun h => hm (Or.inr (Or.inr (Or.inr (Or.inr (Or.inr (Or.inr (Or.inr (Or.inr (Or.inl h)))))))))) (fun h => hm (Or.inr (Or.inr (Or.inr (Or.inr (Or.inr (Or.inr (Or.inr (Or.inr (Or.inr h)))))))))))))))))))).trans ((hF_1206 a j (fun h => hm (Or.inl h))).trans ((hF_1197 a j (fun h => hm (Or.inl h))).trans ((hF_1190 a j (fun h => hm (Or.inl h))).trans (hFc a j (fun q => q.elim (fun h => hm (Or.inl h)) (fun q => q.elim (fun h => hm (Or.inr (Or.inl h))) (fun q => q.elim (fun h => hm (Or.inr (Or.inr (Or.inl h)))) (fun q => q.elim (fun h => hm (Or.inr (Or.inr (Or.inr (Or.inl h))))) (fun q => q.elim (fun h => hm (Or.inr (Or.inr (Or.inr (Or.inr (Or.inl h)))))) (fun q => q.elim (fun h => hm (Or.inr (Or.inr (Or.inr (Or.inr (Or.inr (Or.inl h))))))) (fun q => q.elim (fun h => hm (Or.inr (Or.inr (Or.inr (Or.inr (Or.inr (Or.inr (Or.inl h)))))))) (fun q => q.elim (fun h => hm (Or.inr (Or.inr (Or.inr (Or.inr (Or.inr (Or.inr (Or.inr (Or.inl h))))))))) (fun q => q.elim (fun h => hm (Or.inr (Or.inr (Or.inr (Or.inr (Or.inr (Or.inr (Or.inr (Or.inr (Or.inl h)))))))))) (fun h => hm (Or.inr (Or.inr (Or.inr (Or.inr (Or.inr (Or.inr (Or.inr (Or.inr (Or.inr h))))))))))))))))))))))))) (rt_i2 ⟨⟨by first | (clear h_1 h_2 h_3 h_4 h_5 h_6 h_7 h_8 h_9 h_10 h_11 h_12 h_13 h_14 h_15 h_16 h_17 h_18 h_19 h_20 h_21 h_23 h_24 h_25 h_96 h_115 h_116 h_1045 h_1050 h_1161 h_1162 h_1163 h_1164 h_1165 h_1166 h_1167 h_1169 h_1170 h_1171 h_1173 h_1174 h_1175 h_1177 h_1178 h_1179 h_1181 h_1182 h_1184 h_1185 h_1187 h_1193 h_1194 h_1230 h_1250 h_1243 h_1251 h_1244 h_1252 h_1245 h_1253 h_1246 h_1256 h_1264 h_1265 h_1266 h_1267 h_26 h_1030 h_1186 h_1262 h_1263; omega) | omega, by first | (clear h_1 h_2 h_3 h_4 h_5 h_6 h_7 h_8 h_9 h_10 h_11 h_12 h_13 h_14 h_15 h_16 h_17 h_18 h_19 h_20 h_21 h_23 h_24 h_25 h_96 h_115 h_116 h_1045 h_1050 h_1161 h_1162 h_1163 h_1164 h_1165 h_1166 h_1167 h_1169 h_1170 h_1171 h_1173 h_1174 h_1175 h_1177 h_1178 h_1179 h_1181 h_1182 h_1184 h_1185 h_1187 h_1193 h_1194 h_1230 h_1250 h_1243 h_1251 h_1244 h_1252 h_1245 h_1253 h_1246 h_1256 h_1264 h_1265 h_1266 h_1267 h_26 h_1030 h_1186 h_1262 h_1263; omega) | omega⟩, by first | (clear h_1 h_2 h_3 h_4 h_5 h_6 h_7 h_8 h_9 h_10 h_11 h_12 h_13 h_14 h_15 h_16 h_17 h_18 h_19 h_20 h_21 h_23 h_24 h_25 h_96 h_115 h_116 h_1045 h_1050 h_1159 h_1160 h_1161 h_1162 h_1163 h_1167 h_1169 h_1170 h_1171 h_1173 h_1174 h_1175 h_1177 h_1178 h_1179 h_1181 h_1182 h_1184 h_1185 h_1187 h_1193 h_1194 h_1230 h_1250 h_1243 h_1251 h_1244 h_1252 h_1245 h_1253 h_1246 h_1256 h_1264 h_1265 h_1266 h_26 h_1030 h_1186 h_1262 h_1263; omega) | omega, by first | (clear h_1 h_2 h_3 h_4 h_5 h_6 h_7 h_8 h_9 h_10 h_11 h_12 h_13 h_14 h_15 h_16 h_17 h_18 h_19 h_20 h_21 h_23 h_24 h_25 h_96 h_115 h_116 h_1045 h_1050 h_1159 h_1160 h_1161 h_1162 h_1163 h_1167 h_1169 h_1170 h_1171 h_1173 h_1174 h_1175 h_1177 h_1178 h_1179 h_1181 h_1182 h_1184 h_1185 h_1187 h_1193 h_1194 h_1230 h_1250 h_1243 h_1251 h_1244 h_1252 h_1245 h_1253 h_1246 h_1256 h_1264 h_1265 h_1266 h_26 h_1030 h_1186 h_1262 h_1263; omega) | omega, by first | (clear h_1 h_2 h_3 h_4 h_5 h_6 h_7 h_8 h_9 h_10 h_11 h_12 h_13 h_14 h_15 h_16 h_17 h_18 h_19 h_20 h_21 h_23 h_24 h_25 h_96 h_115 h_116 h_1045 h_1161 h_1162 h_1163 h_1164 h_1165 h_1166 h_1167 h_1169 h_1170 h_1171 h_1173 h_1174 h_1175 h_1177 h_1178 h_1179 h_1181 h_1182 h_1184 h_1185 h_1187 h_1193 h_1194 h_1230 h_1250 h_1243 h_1251 h_1244 h_1252 h_1245 h_1253 h_1246 h_1256 h_1264 h_1265 h_1266 h_26 h_1030 h_1186; omega) | omega⟩) (Or.inr (Or.inl (by first | (clear h_1 h_2 h_3 h_4 h_5 h_6 h_7 h_8 h_9 h_10 h_11 h_12 h_13 h_14 h_15 h_16 h_17 h_18 h_19 h_20 h_21 h_23 h_24 h_25 h_96 h_115 h_116 h_1045 h_1050 h_1161 h_1162 h_1163 h_1164 h_1165 h_1166 h_1167 h_1169 h_1170 h_1171 h_1173 h_1174 h_1175 h_1177 h_1178 h_1179 h_1181 h_1182 h_1184 h_1185 h_1187 h_1193 h_1194 h_1230 h_1250 h_1243 h_1251 h_1244 h_1252 h_1245 h_1253 h_1246 h_1256 h_1264 h_1265 h_1266 h_1267 h_26 h_1030 h_1186 h_1262 h_1263; omega) | omega))) (fun hz => absurd hz (by omega)) (fun hz => absurd hz (by omega)) (fun hz => absurd hz (by omega))
              · refine v_ic_ne_f (t := 69) rfl (by decide) (Decidable.not_not.mp h_1030) ?_
                refine q_iconst rfl ?_
                refine q_goto (t := 70) rfl (by decide) ?_
                refine v_zret rfl rfl (by decide) ?_
                refine bk_inl ?_
                refine v_if_eq_f (t := 59) rfl (by decide) (by decide) ?_
                refine q_aload_n rfl rfl ?_
                refine q_iconst rfl ?_
                refine q_iload_n rfl rfl ?_
                refine v_cv rfl rfl rfl rfl (by decide) ⟨⟨rfl, rfl⟩, by decide, rfl⟩ (Nat.le_of_ble_eq_true rfl) (Nat.le_of_ble_eq_true rfl) ?_
                refine q_aload_n rfl rfl ?_
                refine v_gi (z := 4) (v := 0) rfl rfl rfl (by decide) rfl rfl (hz_118) ?_
                refine v_if_ne_f (t := 17) rfl (by decide) (by decide) ?_
                refine q_aload_n rfl rfl ?_
                refine q_iload_n rfl rfl ?_
                refine v_pi (z := 4) rfl rfl rfl (by decide) rfl rfl rfl (by decide) ?_
                refine q_aload_n rfl rfl ?_
                refine q_iload_n rfl rfl ?_
                refine v_pi (z := 5) rfl rfl rfl (by decide) rfl rfl rfl (by decide) ?_
                refine q_vret rfl rfl ?_
                refine bk_inl ?_
                refine q_aload_n rfl rfl ?_
                refine v_cv rfl rfl rfl rfl (by decide) ⟨⟨rfl, rfl⟩, by decide, rfl⟩ (Nat.le_of_ble_eq_true rfl) (Nat.le_of_ble_eq_true rfl) ?_
                refine q_aload_n rfl rfl ?_
                refine v_gi (z := 4) (v := 3) rfl rfl rfl (by decide) rfl rfl ((up_n (by decide)).trans (up_e rfl)) ?_
                refine v_if_ne_t (t := 11) rfl (by decide) (by decide) ?_
                refine q_iconst rfl ?_
                refine v_zret rfl rfl (by decide) ?_
                refine bk_inl ?_
                refine v_if_eq_t (t := 73) rfl (by decide) (by decide) ?_
                refine q_aload_n rfl rfl ?_
                refine q_ldc_s rfl rfl rfl (by decide) ?_
                refine v_cv rfl rfl rfl rfl (by decide) ⟨⟨rfl, rfl⟩, by decide, rfl⟩ (Nat.le_of_ble_eq_true rfl) (Nat.le_of_ble_eq_true rfl) ?_
                refine q_aload_n rfl rfl ?_
                refine v_cv rfl rfl rfl rfl (by decide) ⟨⟨rfl, rfl⟩, by decide, rfl⟩ (Nat.le_of_ble_eq_true rfl) (Nat.le_of_ble_eq_true rfl) ?_
                refine q_aload_n rfl rfl ?_
                refine v_gi (z := 4) (v := 3) rfl rfl rfl (by decide) rfl rfl ((up_n (by decide)).trans (up_e rfl)) ?_
                refine v_if_ne_t (t := 11) rfl (by decide) (by decide) ?_
                refine q_iconst rfl ?_
                refine v_zret rfl rfl (by decide) ?_
                refine bk_inl ?_
                refine v_if_eq_t (t := 25) rfl (by decide) (by decide) ?_
                refine q_vret rfl rfl ?_
                refine bk_inl ?_
                refine v_iinc (v := v + 1) rfl rfl (by decide) rfl ?_
                refine q_goto (t := 6) rfl (by decide) ?_
                refine q_iload_n rfl rfl ?_
                refine v_bip rfl (by decide) ?_
                refine v_ic_gt_f (t := 85) rfl (by decide) ⟨by first | exact rgp_l hv.1 (by decide) | omega, by first | (clear h_1 h_2 h_3 h_4 h_5 h_6 h_7 h_8 h_9 h_10 h_11 h_12 h_13 h_14 h_15 h_16 h_17 h_18 h_19 h_20 h_21 h_23 h_24 h_25 h_96 h_115 h_116 h_26; omega) | omega, by decide⟩ ?_
                refine q_aload_n rfl rfl ?_
                refine v_cv rfl rfl rfl rfl (by decide) ⟨⟨rfl, rfl⟩, by decide, rfl⟩ (Nat.le_of_ble_eq_true rfl) (Nat.le_of_ble_eq_true rfl) ?_
                refine q_aload_n rfl rfl ?_
                refine v_cv rfl rfl rfl rfl (by decide) ⟨⟨rfl, rfl⟩, by decide, rfl⟩ (Nat.le_of_ble_eq_true rfl) (Nat.le_of_ble_eq_true rfl) ?_
                refine q_aload_n rfl rfl ?_
                refine v_gi (z := 4) (v := 3) rfl rfl rfl (by decide) rfl rfl ((up_n (by decide)).trans (up_e rfl)) ?_
                refine v_if_ne_t (t := 11) rfl (by decide) (by decide) ?_
                refine q_iconst rfl ?_
                refine v_zret rfl rfl (by decide) ?_
                refine bk_inl ?_
                refine v_if_eq_t (t := 22) rfl (by decide) (by decide) ?_
                refine q_iconst rfl ?_
                refine v_zret rfl rfl (by decide) ?_
                refine bk_inl ?_
                refine v_if_eq_t (t := 85) rfl (by decide) (by decide) ?_
                refine q_vret rfl rfl ?_
                have hI_1281 := iw_1_4 (v := 3) hI_113 ⟨by decide, by decide⟩
                have hI_1282 := iw_1_5 (v := (nx F e1 a)) hI_1281 ⟨by first | (clear h_1 h_2 h_3 h_4 h_5 h_6 h_7 h_8 h_9 h_10 h_11 h_12 h_13 h_14 h_15 h_16 h_17 h_18 h_19 h_20 h_21 h_23 h_25 h_115 h_116; omega) | omega, by first | (clear h_3 h_4 h_5 h_6 h_7 h_8 h_11 h_12 h_13 h_14 h_15 h_16 h_17 h_18 h_19 h_20 h_21 h_23 h_115 h_116; omega) | omega⟩
                intro hE_1283
                have hW : Wd P Q P P (up (up c_112 1 4 3) 1 5 (nx F e1 a)) = Wd P Q P P m9 := (Prod.mk.inj (Prod.mk.inj hE_1283).2).1
                have h_1284 := ir_1_4 hJ9
                have h_1285 : m9 1 4 = 3 := wd_fv (z := 4) 4 rfl hW rfl rfl rfl rfl (by decide) ((up_n (by decide)).trans (up_e rfl)) ⟨by decide, by decide⟩ ⟨(Int.le_trans (by decide) h_1284.1), (Int.le_trans h_1284.2 (by decide))⟩
                have h_1286 := ir_1_2 hJ9
                have h_1287 : m9 1 2 = (ln F e1 (nx F e1 a)) := wd_fv (z := 2) 2 rfl hW rfl rfl rfl rfl (by decide) ((up_n (by decide)).trans ((up_n (by decide)).trans (hz_117))) ⟨by first | (clear h_3 h_4 h_5 h_6 h_7 h_8 h_9 h_10 h_11 h_12 h_13 h_14 h_15 h_16 h_17 h_18 h_19 h_20 h_21 h_23 h_25 h_115 h_116 h_1284 h_1285 h_1286; omega) | omega, by first | (clear h_3 h_4 h_5 h_6 h_7 h_8 h_9 h_10 h_11 h_12 h_13 h_14 h_15 h_16 h_17 h_18 h_19 h_20 h_21 h_23 h_25 h_115 h_116 h_1284 h_1285 h_1286; omega) | omega⟩ ⟨(Int.le_trans (by decide) h_1286.1), (Int.le_trans h_1286.2 (by decide))⟩
                have h_1288 := ir_1_5 hJ9
                have h_1289 : m9 1 5 = (nx F e1 a) := wd_fv (z := 5) 5 rfl hW rfl rfl rfl rfl (by decide) (up_e rfl) ⟨by first | (clear h_1 h_2 h_3 h_4 h_5 h_6 h_7 h_8 h_9 h_10 h_11 h_12 h_13 h_14 h_15 h_16 h_17 h_18 h_19 h_20 h_21 h_23 h_25 h_115 h_116 h_1284 h_1285 h_1286 h_1287 h_1288; omega) | omega, by first | (clear h_3 h_4 h_5 h_6 h_7 h_8 h_11 h_12 h_13 h_14 h_15 h_16 h_17 h_18 h_19 h_20 h_21 h_23 h_115 h_116 h_1284 h_1285 h_1286 h_1288; omega) | omega⟩ ⟨(Int.le_trans (by decide) h_1288.1), (Int.le_trans h_1288.2 (by decide))⟩
                have kn_1290 : Hid (c_27 A 0 = jr) := (hF_29 A 0 (fun h => absurd h.1 (np0 hA rfl))).trans (hg_jr)
                have kn_1291 : Hid (c_87 A 0 = jr) := (hF_89 A 0 (fun h => absurd h.1 (np0 hA rfl))).trans (hid kn_1290)
                have kn_1292 : Hid (c_112 A 0 = jr) := (hF_114 A 0 (fun q => q.elim (fun h => absurd h.1 (np0 hA rfl)) (fun q => q.elim (fun h => absurd h.1 (np0 hA rfl)) (fun h => absurd h.1 (np0 hA rfl))))).trans (hid kn_1291)
                have h_1293 := ir_p0_0 hJ9 hA
                have h_1294 : m9 A 0 = jr := wd_fv (z := 0) 0 rfl hW (ck_p0 hA) (ck_p0 hA) rfl rfl (by omega) ((up_c (np0 hA rfl)).trans ((up_c (np0 hA rfl)).trans (hid kn_1292))) ⟨(Int.le_trans (by decide) hjr.1), (Int.le_trans hjr.2 (by decide))⟩ ⟨(Int.le_trans (by decide) h_1293.1), (Int.le_trans h_1293.2 (by decide))⟩
                have kn_1295 : Hid (c_27 A 1 = st) := (hF_29 A 1 (fun h => absurd h.1 (np0 hA rfl))).trans (hg_st)
                have kn_1296 : Hid (c_87 A 1 = st) := (hF_89 A 1 (fun h => absurd h.1 (np0 hA rfl))).trans (hid kn_1295)
                have kn_1297 : Hid (c_112 A 1 = st) := (hF_114 A 1 (fun q => q.elim (fun h => absurd h.1 (np0 hA rfl)) (fun q => q.elim (fun h => absurd h.1 (np0 hA rfl)) (fun h => absurd h.1 (np0 hA rfl))))).trans (hid kn_1296)
                have h_1298 := ir_p0_1 hJ9 hA
                have h_1299 : m9 A 1 = st := wd_fv (z := 1) 1 rfl hW (ck_p0 hA) (ck_p0 hA) rfl rfl (by omega) ((up_c (np0 hA rfl)).trans ((up_c (np0 hA rfl)).trans (hid kn_1297))) ⟨(Int.le_trans (by decide) hst.1), (Int.le_trans hst.2 (by decide))⟩ ⟨(Int.le_trans (by decide) h_1298.1), (Int.le_trans h_1298.2 (by decide))⟩
                have h_1300 := ir_p0_2 hJ9 hA
                have h_1301 : m9 A 2 = si := wd_fv (z := 2) 2 rfl hW (ck_p0 hA) (ck_p0 hA) rfl rfl (by omega) ((up_c (np0 hA rfl)).trans ((up_c (np0 hA rfl)).trans (hid kn_1029))) ⟨(Int.le_trans (by decide) hsi.1), (Int.le_trans hsi.2 (by decide))⟩ ⟨(Int.le_trans (by decide) h_1300.1), (Int.le_trans h_1300.2 (by decide))⟩
                have kn_1302 : Hid (c_27 A 3 = du) := (hF_29 A 3 (fun h => absurd h.1 (np0 hA rfl))).trans (hg_du)
                have kn_1303 : Hid (c_87 A 3 = du) := (hF_89 A 3 (fun h => absurd h.1 (np0 hA rfl))).trans (hid kn_1302)
                have kn_1304 : Hid (c_112 A 3 = du) := (hF_114 A 3 (fun q => q.elim (fun h => absurd h.1 (np0 hA rfl)) (fun q => q.elim (fun h => absurd h.1 (np0 hA rfl)) (fun h => absurd h.1 (np0 hA rfl))))).trans (hid kn_1303)
                have h_1305 := ir_p0_3 hJ9 hA
                have h_1306 : m9 A 3 = du := wd_fv (z := 3) 3 rfl hW (ck_p0 hA) (ck_p0 hA) rfl rfl (by omega) ((up_c (np0 hA rfl)).trans ((up_c (np0 hA rfl)).trans (hid kn_1304))) ⟨(Int.le_trans (by decide) hdu.1), (Int.le_trans hdu.2 (by decide))⟩ ⟨(Int.le_trans (by decide) h_1305.1), (Int.le_trans h_1305.2 (by decide))⟩
                refine q_aload_n rfl rfl ?_
                refine v_cv rfl rfl rfl rfl (by decide) ⟨⟨rfl, rfl⟩, by decide, rfl⟩ (Nat.le_of_ble_eq_true rfl) (Nat.le_of_ble_eq_true rfl) ?_
                refine q_aload_n rfl rfl ?_
                refine v_gi (z := 5) (v := (-1)) rfl rfl rfl (by decide) rfl rfl (hc_1) ?_
                refine q_iconst rfl ?_
                refine v_ic_ne_f (t := 12) rfl (by decide) (by decide) ?_
                refine q_iconst rfl ?_
                refine q_goto (t := 13) rfl (by decide) ?_
                refine v_zret rfl rfl (by decide) ?_
                refine bk_inl ?_
                refine v_if_eq_f (t := 136) rfl (by decide) (by decide) ?_
                refine q_aload_n rfl rfl ?_
                refine v_cv rfl rfl rfl rfl (by decide) ⟨⟨rfl, rfl⟩, by decide, rfl⟩ (Nat.le_of_ble_eq_true rfl) (Nat.le_of_ble_eq_true rfl) ?_
                refine q_aload_n rfl rfl ?_
                have kn_1307 : Hid (c2 41 3 = e1) := (hFc 41 3 (fun q => q.elim (fun h => absurd h.2 (ni rfl)) (fun q => q.elim (fun h => absurd h.2 (ni rfl)) (fun q => q.elim (fun h => absurd h.2 (ni rfl)) (fun q => q.elim (fun h => absurd h.2 (ni rfl)) (fun q => q.elim (fun h => absurd h.2 (ni rfl)) (fun q => q.elim (fun h => absurd h.2 (ni rfl)) (fun q => q.elim (fun h => absurd h.2 (ni rfl)) (fun q => q.elim (fun h => absurd h (nn rfl)) (fun q => q.elim (fun h => absurd h (nn rfl)) (fun h => absurd h (nn rfl)))))))))))).trans (hr_e1)
                have h_1308 : -2147483648 ≤ (H (nx F e1 a)) ∧ (H (nx F e1 a)) ≤ 2147483647 := by rw [← hH (nx F e1 a)]; exact ir_43 hI (nx F e1 a)
                have h_1309 := hU (nx F e1 a) (by omega) (by omega)
                have h_1310 := hb_or (b := H) (e := e1) (r := (nx F e1 a))
                have h_1311 := hb_bd (b := H) (e := e1) (r := (nx F e1 a)) (lo := -2147483648) (hi := 2147483647) ⟨by omega, by omega⟩ (by decide)
                refine v_cv rfl rfl rfl rfl (by decide) ⟨⟨rfl, rfl⟩, by decide, rfl⟩ (Nat.le_of_ble_eq_true rfl) (Nat.le_of_ble_eq_true rfl) (f_154 (e1 := e1) (a9 := a) (B := H) (r8 := (nx F e1 a)) (r := (hb H e1 (nx F e1 a))) hI2 ((hid kn_1307)) ((hr_a)) (fun j => (hFc 43 j (fun q => q.elim (fun h => absurd h.1 (nn rfl)) (fun q => q.elim (fun h => absurd h.1 (nn rfl)) (fun q => q.elim (fun h => absurd h.1 (nn rfl)) (fun q => q.elim (fun h => absurd h.1 (nn rfl)) (fun q => q.elim (fun h => absurd h.1 (nn rfl)) (fun q => q.elim (fun h => absurd h.1 (nn rfl)) (fun q => q.elim (fun h => absurd h.1 (nn rfl)) (fun q => q.elim (fun h => absurd h (nn rfl)) (fun q => q.elim (fun h => absurd h (nn rfl)) (fun h => absurd h (nn rfl)))))))))))).trans (hH j)) ((nx_tr hU (by first | (clear h_1 h_2 h_3 h_4 h_5 h_6 h_7 h_8 h_9 h_10 h_11 h_12 h_13 h_14 h_15 h_16 h_17 h_18 h_19 h_20 h_21 h_23 h_24 h_25 h_96 h_115 h_116 h_1284 h_1285 h_1286 h_1287 h_1288 h_1289 h_1293 h_1294 h_1298 h_1299 h_1300 h_1301 h_1305 h_1306 h_26; omega) | omega) (by first | (clear h_3 h_4 h_5 h_6 h_7 h_8 h_9 h_10 h_11 h_12 h_13 h_14 h_15 h_16 h_17 h_18 h_19 h_20 h_21 h_23 h_25 h_115 h_116 h_1284 h_1285 h_1286 h_1287 h_1288 h_1289 h_1293 h_1294 h_1298 h_1299 h_1300 h_1301 h_1305 h_1306; omega) | omega)).trans (rfl)) rfl (fun c_1312 hI_1313 hF_1314 h_1315 => ?_))
                refine bk_inl ?_
                refine q_pop rfl rfl ?_
                refine q_aload_n rfl rfl ?_
                refine v_gi (z := 4) (v := (nx F e1 a)) rfl rfl rfl (by decide) rfl rfl (h_1315) ?_
                refine q_aload_n rfl rfl ?_
                have kn_1316 : Hid (c_1312 41 3 = e1) := (hF_1314 41 3 (fun h => absurd h.2 (ni rfl))).trans (hid kn_1307)
                refine v_gi (z := 3) (v := e1) rfl rfl rfl (by decide) rfl rfl (hid kn_1316) ?_
                refine v_ic_ge_f (t := 20) rfl (by decide) ⟨by first | (clear h_1 h_2 h_3 h_4 h_5 h_6 h_7 h_8 h_9 h_10 h_11 h_12 h_13 h_14 h_15 h_16 h_17 h_18 h_19 h_20 h_21 h_23 h_25 h_115 h_116 h_1284 h_1285 h_1286 h_1287 h_1288 h_1293 h_1294 h_1298 h_1299 h_1300 h_1301 h_1305 h_1306 h_1308 h_1309 h_1311; omega) | omega, by first | (clear h_1 h_2 h_3 h_4 h_5 h_6 h_7 h_8 h_9 h_10 h_11 h_12 h_13 h_14 h_15 h_16 h_17 h_18 h_19 h_20 h_21 h_23 h_24 h_25 h_96 h_115 h_116 h_1284 h_1285 h_1286 h_1287 h_1288 h_1289 h_1293 h_1294 h_1298 h_1299 h_1300 h_1301 h_1305 h_1306 h_1308 h_1309 h_1311 h_26 h_1310; omega) | omega, (Int.le_trans (rg_eq hg_e1 h_1).2 (by decide))⟩ ?_
                refine q_iconst rfl ?_
                refine q_goto (t := 21) rfl (by decide) ?_
                refine v_zret rfl rfl (by decide) ?_
                refine bk_inl ?_
                refine v_if_eq_f (t := 136) rfl (by decide) (by decide) ?_
                refine q_aload_n rfl rfl ?_
                have h_1317 := wv_bd (b := F) (r := (nx F e1 a)) (l := (ln F e1 (nx F e1 a))) (fun j h1 h2 => ⟨(ln_in (e := e1) (a := (nx F e1 a)) h1 h2).1, (ln_in (e := e1) (a := (nx F e1 a)) h1 h2).2.1⟩)
                have h_1318 := wr8_2 (b := F) (r := (nx F e1 a)) (l := (ln F e1 (nx F e1 a))) (by omega) (fun j h1 h2 => ⟨(ln_in (e := e1) (a := (nx F e1 a)) h1 h2).1, (ln_in (e := e1) (a := (nx F e1 a)) h1 h2).2.1⟩) (by omega)
                refine v_cv rfl rfl rfl rfl (by decide) ⟨⟨rfl, rfl⟩, by decide, rfl⟩ (Nat.le_of_ble_eq_true rfl) (Nat.le_of_ble_eq_true rfl) (f_157 (e1 := e1) (a9 := (nx F e1 a)) (B := H) (r8 := (nx F e1 a)) (L8 := (ln F e1 (nx F e1 a))) (W8 := (wv F (nx F e1 a) (ln F e1 (nx F e1 a)))) hI_1313 ((hid kn_1316)) ((h_1315)) (fun j => ((hF_1314 43 j (fun h => absurd h.1 (nn rfl))).trans (hFc 43 j (fun q => q.elim (fun h => absurd h.1 (nn rfl)) (fun q => q.elim (fun h => absurd h.1 (nn rfl)) (fun q => q.elim (fun h => absurd h.1 (nn rfl)) (fun q => q.elim (fun h => absurd h.1 (nn rfl)) (fun q => q.elim (fun h => absurd h.1 (nn rfl)) (fun q => q.elim (fun h => absurd h.1 (nn rfl)) (fun q => q.elim (fun h => absurd h.1 (nn rfl)) (fun q => q.elim (fun h => absurd h (nn rfl)) (fun q => q.elim (fun h => absurd h (nn rfl)) (fun h => absurd h (nn rfl))))))))))))).trans (hH j)) ((nx_tr hU (by first | (clear h_1 h_2 h_3 h_4 h_5 h_6 h_7 h_8 h_9 h_10 h_11 h_12 h_13 h_14 h_15 h_16 h_17 h_18 h_19 h_20 h_21 h_23 h_25 h_115 h_116 h_1284 h_1285 h_1286 h_1287 h_1288 h_1293 h_1294 h_1298 h_1299 h_1300 h_1301 h_1305 h_1306 h_1308 h_1309 h_1311; omega) | omega) (by first | (clear h_3 h_4 h_5 h_6 h_7 h_8 h_9 h_10 h_11 h_12 h_13 h_14 h_15 h_16 h_17 h_18 h_19 h_20 h_21 h_23 h_25 h_115 h_116 h_1284 h_1285 h_1286 h_1287 h_1288 h_1289 h_1293 h_1294 h_1298 h_1299 h_1300 h_1301 h_1305 h_1306 h_1308 h_1309 h_1311; omega) | omega)).trans ((nx_z (by omega)))) ((ln_tr hU (by first | (clear h_1 h_2 h_3 h_4 h_5 h_6 h_7 h_8 h_9 h_10 h_11 h_12 h_13 h_14 h_15 h_16 h_17 h_18 h_19 h_20 h_21 h_23 h_25 h_115 h_116 h_1284 h_1285 h_1286 h_1287 h_1288 h_1293 h_1294 h_1298 h_1299 h_1300 h_1301 h_1305 h_1306 h_1308 h_1309 h_1311; omega) | omega) (by first | (clear h_3 h_4 h_5 h_6 h_7 h_8 h_9 h_10 h_11 h_12 h_13 h_14 h_15 h_16 h_17 h_18 h_19 h_20 h_21 h_23 h_25 h_115 h_116 h_1284 h_1285 h_1286 h_1287 h_1288 h_1289 h_1293 h_1294 h_1298 h_1299 h_1300 h_1301 h_1305 h_1306 h_1308 h_1309 h_1311; omega) | omega)).trans (rfl)) ((wv_tr hU (by first | (clear h_1 h_2 h_3 h_4 h_5 h_6 h_7 h_8 h_9 h_10 h_11 h_12 h_13 h_14 h_15 h_16 h_17 h_18 h_19 h_20 h_21 h_23 h_25 h_115 h_116 h_1284 h_1285 h_1286 h_1287 h_1288 h_1293 h_1294 h_1298 h_1299 h_1300 h_1301 h_1305 h_1306 h_1308 h_1309 h_1311 h_1317 h_1318; omega) | omega) (by first | (clear h_3 h_4 h_5 h_6 h_7 h_8 h_9 h_10 h_11 h_12 h_13 h_14 h_15 h_16 h_17 h_18 h_19 h_20 h_21 h_23 h_25 h_115 h_116 h_1284 h_1285 h_1288 h_1293 h_1294 h_1298 h_1299 h_1300 h_1301 h_1305 h_1306 h_1308 h_1309 h_1311 h_1317 h_1318; omega) | omega) (fun j h1 h2 => ⟨(ln_in (e := e1) (a := (nx F e1 a)) h1 h2).1, (ln_in (e := e1) (a := (nx F e1 a)) h1 h2).2.1⟩)).trans (rfl)) (fun c_1319 hI_1320 hF_1321 hz_1322 => ?_))
                refine bk_inl ?_
                refine q_istore_n rfl (by decide) ?_
                refine q_iload_n rfl rfl ?_
                refine q_call rfl rfl rfl rfl ?_
                refine q_iload_n rfl rfl ?_
                refine q_ldc_s rfl rfl rfl (by decide) ?_
                refine q_call rfl rfl rfl rfl (s_158_16 ?_)
                refine bk_inl ?_
                refine v_ic_eq_f (t := 36) rfl (by decide) ⟨by first | (clear h_1 h_2 h_3 h_4 h_5 h_6 h_7 h_8 h_9 h_10 h_11 h_12 h_13 h_14 h_15 h_16 h_17 h_18 h_19 h_20 h_21 h_23 h_24 h_25 h_96 h_115 h_116 h_1284 h_1285 h_1286 h_1287 h_1288 h_1289 h_1293 h_1294 h_1298 h_1299 h_1300 h_1301 h_1305 h_1306 h_1308 h_1309 h_1311 h_26 h_1310; omega) | omega, ⟨by first | (clear h_1 h_2 h_3 h_4 h_5 h_6 h_7 h_8 h_9 h_10 h_11 h_12 h_13 h_14 h_15 h_16 h_17 h_18 h_19 h_20 h_21 h_23 h_24 h_25 h_96 h_115 h_116 h_1284 h_1285 h_1286 h_1287 h_1288 h_1289 h_1293 h_1294 h_1298 h_1299 h_1300 h_1301 h_1305 h_1306 h_1308 h_1309 h_1311 h_26 h_1310; omega) | omega, by first | (clear h_1 h_2 h_3 h_4 h_5 h_6 h_7 h_8 h_9 h_10 h_11 h_12 h_13 h_14 h_15 h_16 h_17 h_18 h_19 h_20 h_21 h_23 h_24 h_25 h_96 h_115 h_116 h_1284 h_1285 h_1286 h_1287 h_1288 h_1289 h_1293 h_1294 h_1298 h_1299 h_1300 h_1301 h_1305 h_1306 h_1308 h_1309 h_1311 h_26 h_1310; omega) | omega⟩, by decide, by decide⟩ ?_
                refine q_iload_n rfl rfl ?_
                refine q_ldc_s rfl rfl rfl (by decide) ?_
                refine q_call rfl rfl rfl rfl (s_158_17 ?_)
                refine bk_inl ?_
                refine v_ic_eq_f (t := 36) rfl (by decide) ⟨by first | (clear h_1 h_2 h_3 h_4 h_5 h_6 h_7 h_8 h_9 h_10 h_11 h_12 h_13 h_14 h_15 h_16 h_17 h_18 h_19 h_20 h_21 h_23 h_24 h_25 h_96 h_115 h_116 h_1284 h_1285 h_1286 h_1287 h_1288 h_1289 h_1293 h_1294 h_1298 h_1299 h_1300 h_1301 h_1305 h_1306 h_1308 h_1309 h_1311 h_26 h_1310; omega) | omega, ⟨by first | (clear h_1 h_2 h_3 h_4 h_5 h_6 h_7 h_8 h_9 h_10 h_11 h_12 h_13 h_14 h_15 h_16 h_17 h_18 h_19 h_20 h_21 h_23 h_24 h_25 h_96 h_115 h_116 h_1284 h_1285 h_1286 h_1287 h_1288 h_1289 h_1293 h_1294 h_1298 h_1299 h_1300 h_1301 h_1305 h_1306 h_1308 h_1309 h_1311 h_26 h_1310; omega) | omega, by first | (clear h_1 h_2 h_3 h_4 h_5 h_6 h_7 h_8 h_9 h_10 h_11 h_12 h_13 h_14 h_15 h_16 h_17 h_18 h_19 h_20 h_21 h_23 h_24 h_25 h_96 h_115 h_116 h_1284 h_1285 h_1286 h_1287 h_1288 h_1289 h_1293 h_1294 h_1298 h_1299 h_1300 h_1301 h_1305 h_1306 h_1308 h_1309 h_1311 h_26 h_1310; omega) | omega⟩, by decide, by decide⟩ ?_
                refine q_iload_n rfl rfl ?_
                refine q_ldc_s rfl rfl rfl (by decide) ?_
                refine q_call rfl rfl rfl rfl (s_158_18 ?_)
                refine bk_inl ?_
                refine v_ic_eq_t (t := 36) rfl (by decide) (by first | (clear h_1 h_2 h_3 h_4 h_5 h_6 h_7 h_8 h_9 h_10 h_11 h_12 h_13 h_14 h_15 h_16 h_17 h_18 h_19 h_20 h_21 h_23 h_24 h_25 h_96 h_115 h_116 h_1284 h_1285 h_1286 h_1287 h_1288 h_1289 h_1293 h_1294 h_1298 h_1299 h_1300 h_1301 h_1305 h_1306 h_1308 h_1309 h_1311 h_26 h_1310; omega) | omega) ?_
                refine q_iconst rfl ?_
                refine q_goto (t := 41) rfl (by decide) ?_
                refine v_zret rfl rfl (by decide) ?_
                refine bk_inl ?_
                refine v_if_ne_t (t := 82) rfl (by decide) (by decide) ?_
                refine q_iload_n rfl rfl ?_
                refine v_bip rfl (by decide) ?_
                refine v_ic_eq_f (t := 96) rfl (by decide) ⟨by first | (clear h_1 h_2 h_3 h_4 h_5 h_6 h_7 h_8 h_9 h_10 h_11 h_12 h_13 h_14 h_15 h_16 h_17 h_18 h_19 h_20 h_21 h_23 h_24 h_25 h_96 h_115 h_116 h_1284 h_1285 h_1286 h_1287 h_1288 h_1289 h_1293 h_1294 h_1298 h_1299 h_1300 h_1301 h_1305 h_1306 h_1308 h_1309 h_1311 h_1317 h_1318 h_26 h_1310; omega) | omega, ⟨(Int.le_trans (by decide) hv.1), (Int.le_trans hv.2 (by decide))⟩, by decide, by decide⟩ ?_
                refine q_aload_n rfl rfl ?_
                refine q_iload_n rfl rfl ?_
                refine v_cv rfl rfl rfl rfl (by decide) ⟨⟨rfl, rfl⟩, by decide, rfl⟩ (Nat.le_of_ble_eq_true rfl) (Nat.le_of_ble_eq_true rfl) ?_
                refine q_iload_n rfl rfl ?_
                refine q_ldc_s rfl rfl rfl (by decide) ?_
                refine q_call rfl rfl rfl rfl (s_158_16 ?_)
                refine bk_inl ?_
                refine v_ic_ne_t (t := 26) rfl (by decide) ⟨by first | (clear h_1 h_2 h_3 h_4 h_5 h_6 h_7 h_8 h_9 h_10 h_11 h_12 h_13 h_14 h_15 h_16 h_17 h_18 h_19 h_20 h_21 h_23 h_24 h_25 h_96 h_115 h_116 h_1284 h_1285 h_1286 h_1287 h_1288 h_1289 h_1293 h_1294 h_1298 h_1299 h_1300 h_1301 h_1305 h_1306 h_1308 h_1309 h_1311 h_26 h_1310; omega) | omega, ⟨by first | (clear h_1 h_2 h_3 h_4 h_5 h_6 h_7 h_8 h_9 h_10 h_11 h_12 h_13 h_14 h_15 h_16 h_17 h_18 h_19 h_20 h_21 h_23 h_24 h_25 h_96 h_115 h_116 h_1284 h_1285 h_1286 h_1287 h_1288 h_1289 h_1293 h_1294 h_1298 h_1299 h_1300 h_1301 h_1305 h_1306 h_1308 h_1309 h_1311 h_26 h_1310; omega) | omega, by first | (clear h_1 h_2 h_3 h_4 h_5 h_6 h_7 h_8 h_9 h_10 h_11 h_12 h_13 h_14 h_15 h_16 h_17 h_18 h_19 h_20 h_21 h_23 h_24 h_25 h_96 h_115 h_116 h_1284 h_1285 h_1286 h_1287 h_1288 h_1289 h_1293 h_1294 h_1298 h_1299 h_1300 h_1301 h_1305 h_1306 h_1308 h_1309 h_1311 h_26 h_1310; omega) | omega⟩, by decide, by decide⟩ ?_
                refine q_iload_n rfl rfl ?_
                refine q_ldc_s rfl rfl rfl (by decide) ?_
                refine q_call rfl rfl rfl rfl (s_158_17 ?_)
                refine bk_inl ?_
                refine v_ic_ne_t (t := 51) rfl (by decide) ⟨by first | (clear h_1 h_2 h_3 h_4 h_5 h_6 h_7 h_8 h_9 h_10 h_11 h_12 h_13 h_14 h_15 h_16 h_17 h_18 h_19 h_20 h_21 h_23 h_24 h_25 h_96 h_115 h_116 h_1284 h_1285 h_1286 h_1287 h_1288 h_1289 h_1293 h_1294 h_1298 h_1299 h_1300 h_1301 h_1305 h_1306 h_1308 h_1309 h_1311 h_26 h_1310; omega) | omega, ⟨by first | (clear h_1 h_2 h_3 h_4 h_5 h_6 h_7 h_8 h_9 h_10 h_11 h_12 h_13 h_14 h_15 h_16 h_17 h_18 h_19 h_20 h_21 h_23 h_24 h_25 h_96 h_115 h_116 h_1284 h_1285 h_1286 h_1287 h_1288 h_1289 h_1293 h_1294 h_1298 h_1299 h_1300 h_1301 h_1305 h_1306 h_1308 h_1309 h_1311 h_26 h_1310; omega) | omega, by first | (clear h_1 h_2 h_3 h_4 h_5 h_6 h_7 h_8 h_9 h_10 h_11 h_12 h_13 h_14 h_15 h_16 h_17 h_18 h_19 h_20 h_21 h_23 h_24 h_25 h_96 h_115 h_116 h_1284 h_1285 h_1286 h_1287 h_1288 h_1289 h_1293 h_1294 h_1298 h_1299 h_1300 h_1301 h_1305 h_1306 h_1308 h_1309 h_1311 h_26 h_1310; omega) | omega⟩, by decide, by decide⟩ ?_
                refine q_iload_n rfl rfl ?_
                refine q_ldc_s rfl rfl rfl (by decide) ?_
                refine q_call rfl rfl rfl rfl (s_158_18 ?_)
                refine bk_inl ?_
                refine v_ic_ne_f (t := 72) rfl (by decide) (by first | (clear h_1 h_2 h_3 h_4 h_5 h_6 h_7 h_8 h_9 h_10 h_11 h_12 h_13 h_14 h_15 h_16 h_17 h_18 h_19 h_20 h_21 h_23 h_24 h_25 h_96 h_115 h_116 h_1284 h_1285 h_1286 h_1287 h_1288 h_1289 h_1293 h_1294 h_1298 h_1299 h_1300 h_1301 h_1305 h_1306 h_1308 h_1309 h_1311 h_26 h_1310; omega) | omega) ?_
                refine q_aload_n rfl rfl ?_
                have kn_1323 : Hid (c_1312 41 18 = si) := (hF_1314 41 18 (fun h => absurd h.2 (ni rfl))).trans (hr_si)
                have kn_1324 : Hid (c_1319 41 18 = si) := (hF_1321 41 18 (fun h => absurd h.2 (ni rfl))).trans (hid kn_1323)
                refine v_gi (z := 18) (v := si) rfl rfl rfl (by decide) rfl rfl (hid kn_1324) ?_
                refine q_iconst rfl ?_
                refine v_ic_ne_f (t := 72) rfl (by decide) (by first | (clear h_1 h_2 h_3 h_4 h_5 h_6 h_7 h_8 h_9 h_10 h_11 h_12 h_13 h_14 h_15 h_16 h_17 h_18 h_19 h_20 h_21 h_23 h_24 h_25 h_96 h_115 h_116 h_1284 h_1285 h_1286 h_1287 h_1288 h_1289 h_1293 h_1294 h_1298 h_1299 h_1300 h_1301 h_1305 h_1306 h_1308 h_1309 h_1311 h_1317 h_1318 h_26 h_1310; omega) | omega) ?_
                refine q_iconst rfl ?_
                refine q_goto (t := 73) rfl (by decide) ?_
                refine v_zret rfl rfl (by decide) ?_
                refine bk_inl ?_
                refine v_if_eq_f (t := 105) rfl (by decide) (by decide) ?_
                refine q_aload_n rfl rfl ?_
                refine q_iconst rfl ?_
                refine q_aload_n rfl rfl ?_
                refine v_gi (z := 4) (v := (nx F e1 a)) rfl rfl rfl (by decide) rfl rfl (hz_1322) ?_
                refine v_cv rfl rfl rfl rfl (by decide) ⟨⟨rfl, rfl⟩, by decide, rfl⟩ (Nat.le_of_ble_eq_true rfl) (Nat.le_of_ble_eq_true rfl) ?_
                refine q_aload_n rfl rfl ?_
                have kn_1325 : Hid (c_1312 41 5 = (-1)) := (hF_1314 41 5 (fun h => absurd h.2 (ni rfl))).trans (hc_1)
                have kn_1326 : Hid (c_1319 41 5 = (-1)) := (hF_1321 41 5 (fun h => absurd h.2 (ni rfl))).trans (hid kn_1325)
                refine v_gi (z := 5) (v := (-1)) rfl rfl rfl (by decide) rfl rfl (hid kn_1326) ?_
                refine q_iconst rfl ?_
                refine v_ic_eq_t (t := 9) rfl (by decide) (by decide) ?_
                refine q_aload_n rfl rfl ?_
                refine q_iload_n rfl rfl ?_
                refine v_pi (z := 5) rfl rfl rfl (by decide) rfl rfl rfl (by decide) ?_
                refine q_aload_n rfl rfl ?_
                refine q_iload_n rfl rfl ?_
                refine v_pi (z := 6) rfl rfl rfl (by decide) rfl rfl rfl (by decide) ?_
                refine q_vret rfl rfl ?_
                refine bk_inl ?_
                refine q_aload_n rfl rfl ?_
                refine v_cv rfl rfl rfl rfl (by decide) ⟨⟨rfl, rfl⟩, by decide, rfl⟩ (Nat.le_of_ble_eq_true rfl) (Nat.le_of_ble_eq_true rfl) ?_
                refine q_aload_n rfl rfl ?_
                refine v_gi (z := 5) (v := (nx F e1 a)) rfl rfl rfl (by decide) rfl rfl ((up_n (by decide)).trans (up_e rfl)) ?_
                refine q_iconst rfl ?_
                refine v_ic_ne_t (t := 12) rfl (by decide) ⟨by first | (clear h_1 h_2 h_3 h_4 h_5 h_6 h_7 h_8 h_9 h_10 h_11 h_12 h_13 h_14 h_15 h_16 h_17 h_18 h_19 h_20 h_21 h_23 h_25 h_115 h_116 h_1284 h_1285 h_1286 h_1287 h_1288 h_1293 h_1294 h_1298 h_1299 h_1300 h_1301 h_1305 h_1306 h_1308 h_1309 h_1311 h_1317 h_1318; omega) | omega, ⟨by first | (clear h_1 h_2 h_3 h_4 h_5 h_6 h_7 h_8 h_9 h_10 h_11 h_12 h_13 h_14 h_15 h_16 h_17 h_18 h_19 h_20 h_21 h_23 h_25 h_115 h_116 h_1284 h_1285 h_1286 h_1287 h_1288 h_1293 h_1294 h_1298 h_1299 h_1300 h_1301 h_1305 h_1306 h_1308 h_1309 h_1311 h_1317 h_1318; omega) | omega, by first | (clear h_3 h_4 h_5 h_6 h_7 h_8 h_11 h_12 h_13 h_14 h_15 h_16 h_17 h_18 h_19 h_20 h_21 h_23 h_115 h_116 h_1284 h_1285 h_1286 h_1293 h_1294 h_1298 h_1299 h_1300 h_1301 h_1305 h_1306 h_1317 h_1318; omega) | omega⟩, by decide, by decide⟩ ?_
                refine q_iconst rfl ?_
                refine v_zret rfl rfl (by decide) ?_
                refine bk_inl ?_
                refine v_if_ne_f (t := 115) rfl (by decide) (by decide) ?_
                refine q_goto (t := 136) rfl (by decide) ?_
                refine Wp_ls [(0, .ref 41), (1, vi a1)] (lsub_cons rfl (lsub_cons rfl lsub_nil)) ?_
                have hI_1327 := iw_41_5 (v := (nx F e1 a)) hI_1320 ⟨by first | (clear h_1 h_2 h_3 h_4 h_5 h_6 h_7 h_8 h_9 h_10 h_11 h_12 h_13 h_14 h_15 h_16 h_17 h_18 h_19 h_20 h_21 h_23 h_25 h_115 h_116 h_1284 h_1285 h_1286 h_1287 h_1288 h_1293 h_1294 h_1298 h_1299 h_1300 h_1301 h_1305 h_1306 h_1308 h_1309 h_1311 h_1317 h_1318; omega) | omega, by first | (clear h_3 h_4 h_5 h_6 h_7 h_8 h_11 h_12 h_13 h_14 h_15 h_16 h_17 h_18 h_19 h_20 h_21 h_23 h_115 h_116 h_1284 h_1285 h_1286 h_1293 h_1294 h_1298 h_1299 h_1300 h_1301 h_1305 h_1306 h_1317 h_1318; omega) | omega⟩
                have hI_1328 := iw_41_6 (v := 3) hI_1327 ⟨by decide, by decide⟩
                have h_1329 : (up (up c_1319 41 5 (nx F e1 a)) 41 6 3) 41 5 = (nx F e1 a) := ((up_n (by decide)).trans (up_e rfl))
                have h_1330 : (up (up c_1319 41 5 (nx F e1 a)) 41 6 3) 41 4 = (nx F e1 a) := ((up_n (by decide)).trans ((up_n (by decide)).trans (hz_1322)))
                have h_1331 : (up (up c_1319 41 5 (nx F e1 a)) 41 6 3) 41 6 = 3 := (up_e rfl)
                have kn_1332 : Hid (c_1312 41 16 = jr) := (hF_1314 41 16 (fun h => absurd h.2 (ni rfl))).trans (hr_jr)
                have kn_1333 : Hid (c_1319 41 16 = jr) := (hF_1321 41 16 (fun h => absurd h.2 (ni rfl))).trans (hid kn_1332)
                have h_1334 : (up (up c_1319 41 5 (nx F e1 a)) 41 6 3) 41 16 = jr := ((up_n (by decide)).trans ((up_n (by decide)).trans (hid kn_1333)))
                have kn_1335 : Hid (c_1312 41 17 = st) := (hF_1314 41 17 (fun h => absurd h.2 (ni rfl))).trans (hr_st)
                have kn_1336 : Hid (c_1319 41 17 = st) := (hF_1321 41 17 (fun h => absurd h.2 (ni rfl))).trans (hid kn_1335)
                have h_1337 : (up (up c_1319 41 5 (nx F e1 a)) 41 6 3) 41 17 = st := ((up_n (by decide)).trans ((up_n (by decide)).trans (hid kn_1336)))
                have h_1338 : (up (up c_1319 41 5 (nx F e1 a)) 41 6 3) 41 18 = si := ((up_n (by decide)).trans ((up_n (by decide)).trans (hid kn_1324)))
                have kn_1339 : Hid (c_1312 41 19 = du) := (hF_1314 41 19 (fun h => absurd h.2 (ni rfl))).trans (hr_du)
                have kn_1340 : Hid (c_1319 41 19 = du) := (hF_1321 41 19 (fun h => absurd h.2 (ni rfl))).trans (hid kn_1339)
                have h_1341 : (up (up c_1319 41 5 (nx F e1 a)) 41 6 3) 41 19 = du := ((up_n (by decide)).trans ((up_n (by decide)).trans (hid kn_1340)))
                have h_1342 : (up (up c_1319 41 5 (nx F e1 a)) 41 6 3) 41 16 = jr := ((up_n (by decide)).trans ((up_n (by decide)).trans (hid kn_1333)))
                have h_1343 : (up (up c_1319 41 5 (nx F e1 a)) 41 6 3) 41 17 = st := ((up_n (by decide)).trans ((up_n (by decide)).trans (hid kn_1336)))
                have h_1344 : (up (up c_1319 41 5 (nx F e1 a)) 41 6 3) 41 18 = si := ((up_n (by decide)).trans ((up_n (by decide)).trans (hid kn_1324)))
                exact K (up (up c_1319 41 5 (nx F e1 a)) 41 6 3)  hI_1328 (fun a j hm => (up_b (Decidable.or_iff_not_imp_left.mpr (fun h1 h2 => hm (Or.inr (Or.inr (Or.inl ⟨Decidable.not_not.mp h1, h2⟩)))))).trans ((up_b (Decidable.or_iff_not_imp_left.mpr (fun h1 h2 => hm (Or.inr (Or.inl ⟨Decidable.not_not.mp h1, h2⟩))))).trans ((hF_1321 a j (fun h => hm (Or.inl h))).trans ((hF_1314 a j (fun h => hm (Or.inl h))).trans (hFc a j (fun q => q.elim (fun h => hm (Or.inl h)) (fun q => q.elim (fun h => hm (Or.inr (Or.inl h))) (fun q => q.elim (fun h => hm (Or.inr (Or.inr (Or.inl h)))) (fun q => q.elim (fun h => hm (Or.inr (Or.inr (Or.inr (Or.inl h))))) (fun q => q.elim (fun h => hm (Or.inr (Or.inr (Or.inr (Or.inr (Or.inl h)))))) (fun q => q.elim (fun h => hm (Or.inr (Or.inr (Or.inr (Or.inr (Or.inr (Or.inl h))))))) (fun q => q.elim (fun h => hm (Or.inr (Or.inr (Or.inr (Or.inr (Or.inr (Or.inr (Or.inl h)))))))) (fun q => q.elim (fun h => hm (Or.inr (Or.inr (Or.inr (Or.inr (Or.inr (Or.inr (Or.inr (Or.inl h))))))))) (fun q => q.elim (fun h => hm (Or.inr (Or.inr (Or.inr (Or.inr (Or.inr (Or.inr (Or.inr (Or.inr (Or.inl h)))))))))) (fun h => hm (Or.inr (Or.inr (Or.inr (Or.inr (Or.inr (Or.inr (Or.inr (Or.inr (Or.inr h)))))))))))))))))))))))) (rt_i2 ⟨⟨by first | (clear h_1 h_2 h_3 h_4 h_5 h_6 h_7 h_8 h_9 h_10 h_11 h_12 h_13 h_14 h_15 h_16 h_17 h_18 h_19 h_20 h_21 h_23 h_24 h_25 h_96 h_115 h_116 h_1286 h_1287 h_1288 h_1289 h_1293 h_1294 h_1298 h_1299 h_1300 h_1301 h_1305 h_1306 h_1308 h_1309 h_1311 h_1317 h_1318 h_26 h_1310; omega) | omega, by first | (clear h_1 h_2 h_3 h_4 h_5 h_6 h_7 h_8 h_9 h_10 h_11 h_12 h_13 h_14 h_15 h_16 h_17 h_18 h_19 h_20 h_21 h_23 h_24 h_25 h_96 h_115 h_116 h_1286 h_1287 h_1288 h_1289 h_1293 h_1294 h_1298 h_1299 h_1300 h_1301 h_1305 h_1306 h_1308 h_1309 h_1311 h_1317 h_1318 h_26 h_1310; omega) | omega⟩, by first | (clear h_1 h_2 h_3 h_4 h_5 h_6 h_7 h_8 h_9 h_10 h_11 h_12 h_13 h_14 h_15 h_16 h_17 h_18 h_19 h_20 h_21 h_23 h_25 h_115 h_116 h_1284 h_1285 h_1286 h_1287 h_1293 h_1294 h_1298 h_1299 h_1300 h_1301 h_1305 h_1306 h_1308 h_1309 h_1311 h_1317 h_1318; omega) | omega, by first | (clear h_1 h_2 h_3 h_4 h_5 h_6 h_7 h_8 h_9 h_10 h_11 h_12 h_13 h_14 h_15 h_16 h_17 h_18 h_19 h_20 h_21 h_23 h_25 h_115 h_116 h_1284 h_1285 h_1286 h_1287 h_1293 h_1294 h_1298 h_1299 h_1300 h_1301 h_1305 h_1306 h_1308 h_1309 h_1311 h_1317 h_1318; omega) | omega, by first | (clear h_1 h_2 h_3 h_4 h_5 h_6 h_7 h_8 h_9 h_10 h_11 h_12 h_13 h_14 h_15 h_16 h_17 h_18 h_19 h_20 h_21 h_23 h_24 h_25 h_96 h_115 h_116 h_1286 h_1287 h_1288 h_1289 h_1293 h_1294 h_1298 h_1299 h_1300 h_1301 h_1305 h_1306 h_1308 h_1309 h_1311 h_1317 h_1318 h_26 h_1310; omega) | omega⟩) (Or.inr (Or.inl (by first | (clear h_1 h_2 h_3 h_4 h_5 h_6 h_7 h_8 h_9 h_10 h_11 h_12 h_13 h_14 h_15 h_16 h_17 h_18 h_19 h_20 h_21 h_23 h_24 h_25 h_96 h_115 h_116 h_1286 h_1287 h_1288 h_1289 h_1293 h_1294 h_1298 h_1299 h_1300 h_1301 h_1305 h_1306 h_1308 h_1309 h_1311 h_1317 h_1318 h_26 h_1310; omega) | omega))) (fun hz => absurd hz (by omega)) (fun hz => absurd hz (by omega)) (fun hz => absurd hz (by omega))
          refine v_tsw_o (t := 71) rfl (by omega) (by decide) ?_
          refine q_iconst rfl ?_
          refine v_zret rfl rfl (by decide) ?_
          refine bk_inl ?_
          refine v_if_eq_t (t := 59) rfl (by decide) (by decide) ?_
          refine q_aload_n rfl rfl ?_
          refine v_cv rfl rfl rfl rfl (by decide) ⟨⟨rfl, rfl⟩, by decide, rfl⟩ (Nat.le_of_ble_eq_true rfl) (Nat.le_of_ble_eq_true rfl) ?_
          refine q_aload_n rfl rfl ?_
          refine v_gi (z := 4) (v := 0) rfl rfl rfl (by decide) rfl rfl (hz_118) ?_
          refine v_if_ne_f (t := 11) rfl (by decide) (by decide) ?_
          refine q_iconst rfl ?_
          refine q_goto (t := 12) rfl (by decide) ?_
          refine v_zret rfl rfl (by decide) ?_
          refine bk_inl ?_
          refine v_if_eq_f (t := 73) rfl (by decide) (by decide) ?_
          refine q_aload_n rfl rfl ?_
          refine q_aload_n rfl rfl ?_
          refine q_iload rfl rfl ?_
          have hw_1345 : (wd8_0 F (nx F e1 a) (ln F e1 (nx F e1 a))) = 3 := by omega
          rw [hw_1345]
          have kn_1346 : Hid (c_27 A 0 = jr) := (hF_29 A 0 (fun h => absurd h.1 (np0 hA rfl))).trans (hg_jr)
          have kn_1347 : Hid (c_87 A 0 = jr) := (hF_89 A 0 (fun h => absurd h.1 (np0 hA rfl))).trans (hid kn_1346)
          have kn_1348 : Hid (c_112 A 0 = jr) := (hF_114 A 0 (fun q => q.elim (fun h => absurd h.1 (np0 hA rfl)) (fun q => q.elim (fun h => absurd h.1 (np0 hA rfl)) (fun h => absurd h.1 (np0 hA rfl))))).trans (hid kn_1347)
          have h_1349 : c_112 A 0 = jr := (hid kn_1348)
          have kn_1350 : Hid (c_27 A 1 = st) := (hF_29 A 1 (fun h => absurd h.1 (np0 hA rfl))).trans (hg_st)
          have kn_1351 : Hid (c_87 A 1 = st) := (hF_89 A 1 (fun h => absurd h.1 (np0 hA rfl))).trans (hid kn_1350)
          have kn_1352 : Hid (c_112 A 1 = st) := (hF_114 A 1 (fun q => q.elim (fun h => absurd h.1 (np0 hA rfl)) (fun q => q.elim (fun h => absurd h.1 (np0 hA rfl)) (fun h => absurd h.1 (np0 hA rfl))))).trans (hid kn_1351)
          have h_1353 : c_112 A 1 = st := (hid kn_1352)
          have kn_1354 : Hid (c_27 A 2 = si) := (hF_29 A 2 (fun h => absurd h.1 (np0 hA rfl))).trans (hg_si)
          have kn_1355 : Hid (c_87 A 2 = si) := (hF_89 A 2 (fun h => absurd h.1 (np0 hA rfl))).trans (hid kn_1354)
          have kn_1356 : Hid (c_112 A 2 = si) := (hF_114 A 2 (fun q => q.elim (fun h => absurd h.1 (np0 hA rfl)) (fun q => q.elim (fun h => absurd h.1 (np0 hA rfl)) (fun h => absurd h.1 (np0 hA rfl))))).trans (hid kn_1355)
          have h_1357 : c_112 A 2 = si := (hid kn_1356)
          refine v_cv rfl rfl rfl (ck_p0 hA) (by omega) ⟨⟨rfl, rfl⟩, by decide, rfl⟩ (Nat.le_of_ble_eq_true rfl) (Nat.le_of_ble_eq_true rfl) (fn_of (s_33 (a2 := 3) hI_113 hA (show 0 ≤ 3 ∧ 3 ≤ 100 from ⟨by decide, by decide⟩) (Or.inl (by first | (clear h_1 h_2 h_3 h_4 h_5 h_6 h_7 h_8 h_9 h_10 h_11 h_12 h_13 h_14 h_15 h_16 h_17 h_18 h_19 h_20 h_21 h_23 h_24 h_25 h_96 h_115 h_116 h_26; omega) | omega)) (Or.inl (by first | (clear h_1 h_2 h_3 h_4 h_5 h_6 h_7 h_8 h_9 h_10 h_11 h_12 h_13 h_14 h_15 h_16 h_17 h_18 h_19 h_20 h_21 h_23 h_24 h_25 h_96 h_115 h_116 h_26; omega) | omega)) (Or.inl (by first | (clear h_1 h_2 h_3 h_4 h_5 h_6 h_7 h_8 h_9 h_10 h_11 h_12 h_13 h_14 h_15 h_16 h_17 h_18 h_19 h_20 h_21 h_23 h_24 h_25 h_96 h_115 h_116 h_26; omega) | omega)) (fun c_1358 hI_1359 hF_1360 => ?_)))
          intro hG_1361
          refine bk_inl ?_
          refine q_aload_n rfl rfl ?_
          refine q_ldc_s rfl rfl rfl (by decide) ?_
          have h_1362 := ir_1_4 hI_1359
          refine v_cv rfl rfl rfl rfl (by decide) ⟨⟨rfl, rfl⟩, by decide, rfl⟩ (Nat.le_of_ble_eq_true rfl) (Nat.le_of_ble_eq_true rfl) (fn_of (s_11 hI_1359 (q := 9) (nt := 1) (by decide) (by decide) (by decide) (fun c_1363 hI_1364 hF_1365 => ?_)))
          intro hG_1366
          refine bk_inl ?_
          refine v_iinc (v := v + 1) rfl rfl (by decide) rfl ?_
          refine q_goto (t := 6) rfl (by decide) ?_
          have h_1367 := ir_1_4 hI_1364
          by_cases h_1368 : c_1363 1 4 = 0
          · skip
            refine Wp_ls [(0, .ref A), (1, .ref 1), (2, vi (v + 1))] (lsub_cons rfl (lsub_cons rfl (lsub_cons rfl lsub_nil))) ?_
            refine gh_stop (s_34_l (sc := sc) (d := dh + 18) (c := c_1363) (Z := fun _ => True) hI_1364 hA (fun _ _ _ => trivial) 124 c_1363 (v + 1) hI_1364 (fun a j hm => rfl) ⟨by omega, by omega⟩ (by omega)) (fun hG_1369 => ?_)
            refine q_aload_n rfl rfl ?_
            refine v_cv rfl rfl rfl rfl (by decide) ⟨⟨rfl, rfl⟩, by decide, rfl⟩ (Nat.le_of_ble_eq_true rfl) (Nat.le_of_ble_eq_true rfl) ?_
            refine q_aload_n rfl rfl ?_
            refine v_gi (z := 5) (v := (-1)) rfl rfl rfl (by decide) rfl rfl (hc_1) ?_
            refine q_iconst rfl ?_
            refine v_ic_ne_f (t := 12) rfl (by decide) (by decide) ?_
            refine q_iconst rfl ?_
            refine q_goto (t := 13) rfl (by decide) ?_
            refine v_zret rfl rfl (by decide) ?_
            refine bk_inl ?_
            refine v_if_eq_f (t := 136) rfl (by decide) (by decide) ?_
            refine q_aload_n rfl rfl ?_
            refine v_cv rfl rfl rfl rfl (by decide) ⟨⟨rfl, rfl⟩, by decide, rfl⟩ (Nat.le_of_ble_eq_true rfl) (Nat.le_of_ble_eq_true rfl) ?_
            refine q_aload_n rfl rfl ?_
            have kn_1370 : Hid (c2 41 3 = e1) := (hFc 41 3 (fun q => q.elim (fun h => absurd h.2 (ni rfl)) (fun q => q.elim (fun h => absurd h.2 (ni rfl)) (fun q => q.elim (fun h => absurd h.2 (ni rfl)) (fun q => q.elim (fun h => absurd h.2 (ni rfl)) (fun q => q.elim (fun h => absurd h.2 (ni rfl)) (fun q => q.elim (fun h => absurd h.2 (ni rfl)) (fun q => q.elim (fun h => absurd h.2 (ni rfl)) (fun q => q.elim (fun h => absurd h (nn rfl)) (fun q => q.elim (fun h => absurd h (nn rfl)) (fun h => absurd h (nn rfl)))))))))))).trans (hr_e1)
            have h_1371 : -2147483648 ≤ (H (nx F e1 a)) ∧ (H (nx F e1 a)) ≤ 2147483647 := by rw [← hH (nx F e1 a)]; exact ir_43 hI (nx F e1 a)
            have h_1372 := hU (nx F e1 a) (by omega) (by omega)
            have h_1373 := hb_or (b := H) (e := e1) (r := (nx F e1 a))
            have h_1374 := hb_bd (b := H) (e := e1) (r := (nx F e1 a)) (lo := -2147483648) (hi := 2147483647) ⟨by omega, by omega⟩ (by decide)
            refine v_cv rfl rfl rfl rfl (by decide) ⟨⟨rfl, rfl⟩, by decide, rfl⟩ (Nat.le_of_ble_eq_true rfl) (Nat.le_of_ble_eq_true rfl) (f_154 (e1 := e1) (a9 := a) (B := H) (r8 := (nx F e1 a)) (r := (hb H e1 (nx F e1 a))) hI2 ((hid kn_1370)) ((hr_a)) (fun j => (hFc 43 j (fun q => q.elim (fun h => absurd h.1 (nn rfl)) (fun q => q.elim (fun h => absurd h.1 (nn rfl)) (fun q => q.elim (fun h => absurd h.1 (nn rfl)) (fun q => q.elim (fun h => absurd h.1 (nn rfl)) (fun q => q.elim (fun h => absurd h.1 (nn rfl)) (fun q => q.elim (fun h => absurd h.1 (nn rfl)) (fun q => q.elim (fun h => absurd h.1 (nn rfl)) (fun q => q.elim (fun h => absurd h (nn rfl)) (fun q => q.elim (fun h => absurd h (nn rfl)) (fun h => absurd h (nn rfl)))))))))))).trans (hH j)) ((nx_tr hU (by first | (clear h_1 h_2 h_3 h_4 h_5 h_6 h_7 h_8 h_9 h_10 h_11 h_12 h_13 h_14 h_15 h_16 h_17 h_18 h_19 h_20 h_21 h_23 h_24 h_25 h_96 h_115 h_116 h_1362 h_1367 h_1368 h_26; omega) | omega) (by first | (clear h_3 h_4 h_5 h_6 h_7 h_8 h_9 h_10 h_11 h_12 h_13 h_14 h_15 h_16 h_17 h_18 h_19 h_20 h_21 h_23 h_25 h_115 h_116 h_1362 h_1367 h_1368; omega) | omega)).trans (rfl)) rfl (fun c_1375 hI_1376 hF_1377 h_1378 => ?_))
            refine bk_inl ?_
            refine q_pop rfl rfl ?_
            refine q_aload_n rfl rfl ?_
            refine v_gi (z := 4) (v := (nx F e1 a)) rfl rfl rfl (by decide) rfl rfl (h_1378) ?_
            refine q_aload_n rfl rfl ?_
            have kn_1379 : Hid (c_1375 41 3 = e1) := (hF_1377 41 3 (fun h => absurd h.2 (ni rfl))).trans (hid kn_1370)
            refine v_gi (z := 3) (v := e1) rfl rfl rfl (by decide) rfl rfl (hid kn_1379) ?_
            refine v_ic_ge_f (t := 20) rfl (by decide) ⟨by first | (clear h_1 h_2 h_3 h_4 h_5 h_6 h_7 h_8 h_9 h_10 h_11 h_12 h_13 h_14 h_15 h_16 h_17 h_18 h_19 h_20 h_21 h_23 h_25 h_115 h_116 h_1362 h_1367 h_1368 h_1371 h_1372 h_1374; omega) | omega, by first | (clear h_1 h_2 h_3 h_4 h_5 h_6 h_7 h_8 h_9 h_10 h_11 h_12 h_13 h_14 h_15 h_16 h_17 h_18 h_19 h_20 h_21 h_23 h_24 h_25 h_96 h_115 h_116 h_1362 h_1367 h_1368 h_1371 h_1372 h_1374 h_26 h_1373; omega) | omega, (Int.le_trans (rg_eq hg_e1 h_1).2 (by decide))⟩ ?_
            refine q_iconst rfl ?_
            refine q_goto (t := 21) rfl (by decide) ?_
            refine v_zret rfl rfl (by decide) ?_
            refine bk_inl ?_
            refine v_if_eq_f (t := 136) rfl (by decide) (by decide) ?_
            refine q_aload_n rfl rfl ?_
            have h_1380 := wv_bd (b := F) (r := (nx F e1 a)) (l := (ln F e1 (nx F e1 a))) (fun j h1 h2 => ⟨(ln_in (e := e1) (a := (nx F e1 a)) h1 h2).1, (ln_in (e := e1) (a := (nx F e1 a)) h1 h2).2.1⟩)
            have h_1381 := wr8_3 (b := F) (r := (nx F e1 a)) (l := (ln F e1 (nx F e1 a))) (by omega) (fun j h1 h2 => ⟨(ln_in (e := e1) (a := (nx F e1 a)) h1 h2).1, (ln_in (e := e1) (a := (nx F e1 a)) h1 h2).2.1⟩) (by omega)
            refine v_cv rfl rfl rfl rfl (by decide) ⟨⟨rfl, rfl⟩, by decide, rfl⟩ (Nat.le_of_ble_eq_true rfl) (Nat.le_of_ble_eq_true rfl) (f_157 (e1 := e1) (a9 := (nx F e1 a)) (B := H) (r8 := (nx F e1 a)) (L8 := (ln F e1 (nx F e1 a))) (W8 := (wv F (nx F e1 a) (ln F e1 (nx F e1 a)))) hI_1376 ((hid kn_1379)) ((h_1378)) (fun j => ((hF_1377 43 j (fun h => absurd h.1 (nn rfl))).trans (hFc 43 j (fun q => q.elim (fun h => absurd h.1 (nn rfl)) (fun q => q.elim (fun h => absurd h.1 (nn rfl)) (fun q => q.elim (fun h => absurd h.1 (nn rfl)) (fun q => q.elim (fun h => absurd h.1 (nn rfl)) (fun q => q.elim (fun h => absurd h.1 (nn rfl)) (fun q => q.elim (fun h => absurd h.1 (nn rfl)) (fun q => q.elim (fun h => absurd h.1 (nn rfl)) (fun q => q.elim (fun h => absurd h (nn rfl)) (fun q => q.elim (fun h => absurd h (nn rfl)) (fun h => absurd h (nn rfl))))))))))))).trans (hH j)) ((nx_tr hU (by first | (clear h_1 h_2 h_3 h_4 h_5 h_6 h_7 h_8 h_9 h_10 h_11 h_12 h_13 h_14 h_15 h_16 h_17 h_18 h_19 h_20 h_21 h_23 h_25 h_115 h_116 h_1362 h_1367 h_1368 h_1371 h_1372 h_1374; omega) | omega) (by first | (clear h_3 h_4 h_5 h_6 h_7 h_8 h_9 h_10 h_11 h_12 h_13 h_14 h_15 h_16 h_17 h_18 h_19 h_20 h_21 h_23 h_25 h_115 h_116 h_1362 h_1367 h_1368 h_1371 h_1372 h_1374; omega) | omega)).trans ((nx_z (by omega)))) ((ln_tr hU (by first | (clear h_1 h_2 h_3 h_4 h_5 h_6 h_7 h_8 h_9 h_10 h_11 h_12 h_13 h_14 h_15 h_16 h_17 h_18 h_19 h_20 h_21 h_23 h_25 h_115 h_116 h_1362 h_1367 h_1368 h_1371 h_1372 h_1374; omega) | omega) (by first | (clear h_3 h_4 h_5 h_6 h_7 h_8 h_9 h_10 h_11 h_12 h_13 h_14 h_15 h_16 h_17 h_18 h_19 h_20 h_21 h_23 h_25 h_115 h_116 h_1362 h_1367 h_1368 h_1371 h_1372 h_1374; omega) | omega)).trans (rfl)) ((wv_tr hU (by first | (clear h_1 h_2 h_3 h_4 h_5 h_6 h_7 h_8 h_9 h_10 h_11 h_12 h_13 h_14 h_15 h_16 h_17 h_18 h_19 h_20 h_21 h_23 h_25 h_115 h_116 h_1362 h_1367 h_1368 h_1371 h_1372 h_1374 h_1380 h_1381; omega) | omega) (by first | (clear h_3 h_4 h_5 h_6 h_7 h_8 h_9 h_10 h_11 h_12 h_13 h_14 h_15 h_16 h_17 h_18 h_19 h_20 h_21 h_23 h_25 h_115 h_116 h_1362 h_1367 h_1368 h_1371 h_1372 h_1374 h_1380 h_1381; omega) | omega) (fun j h1 h2 => ⟨(ln_in (e := e1) (a := (nx F e1 a)) h1 h2).1, (ln_in (e := e1) (a := (nx F e1 a)) h1 h2).2.1⟩)).trans (rfl)) (fun c_1382 hI_1383 hF_1384 hz_1385 => ?_))
            refine bk_inl ?_
            refine q_istore_n rfl (by decide) ?_
            refine q_iload_n rfl rfl ?_
            refine q_call rfl rfl rfl rfl ?_
            refine q_iload_n rfl rfl ?_
            refine q_ldc_s rfl rfl rfl (by decide) ?_
            refine q_call rfl rfl rfl rfl (s_158_16 ?_)
            refine bk_inl ?_
            refine v_ic_eq_f (t := 36) rfl (by decide) ⟨by first | (clear h_1 h_2 h_3 h_4 h_5 h_6 h_7 h_8 h_9 h_10 h_11 h_12 h_13 h_14 h_15 h_16 h_17 h_18 h_19 h_20 h_21 h_23 h_24 h_25 h_96 h_115 h_116 h_1362 h_1367 h_1368 h_1371 h_1372 h_1374 h_26 h_1373; omega) | omega, ⟨by first | (clear h_1 h_2 h_3 h_4 h_5 h_6 h_7 h_8 h_9 h_10 h_11 h_12 h_13 h_14 h_15 h_16 h_17 h_18 h_19 h_20 h_21 h_23 h_24 h_25 h_96 h_115 h_116 h_1362 h_1367 h_1368 h_1371 h_1372 h_1374 h_26 h_1373; omega) | omega, by first | (clear h_1 h_2 h_3 h_4 h_5 h_6 h_7 h_8 h_9 h_10 h_11 h_12 h_13 h_14 h_15 h_16 h_17 h_18 h_19 h_20 h_21 h_23 h_24 h_25 h_96 h_115 h_116 h_1362 h_1367 h_1368 h_1371 h_1372 h_1374 h_26 h_1373; omega) | omega⟩, by decide, by decide⟩ ?_
            refine q_iload_n rfl rfl ?_
            refine q_ldc_s rfl rfl rfl (by decide) ?_
            refine q_call rfl rfl rfl rfl (s_158_17 ?_)
            refine bk_inl ?_
            refine v_ic_eq_f (t := 36) rfl (by decide) ⟨by first | (clear h_1 h_2 h_3 h_4 h_5 h_6 h_7 h_8 h_9 h_10 h_11 h_12 h_13 h_14 h_15 h_16 h_17 h_18 h_19 h_20 h_21 h_23 h_24 h_25 h_96 h_115 h_116 h_1362 h_1367 h_1368 h_1371 h_1372 h_1374 h_26 h_1373; omega) | omega, ⟨by first | (clear h_1 h_2 h_3 h_4 h_5 h_6 h_7 h_8 h_9 h_10 h_11 h_12 h_13 h_14 h_15 h_16 h_17 h_18 h_19 h_20 h_21 h_23 h_24 h_25 h_96 h_115 h_116 h_1362 h_1367 h_1368 h_1371 h_1372 h_1374 h_26 h_1373; omega) | omega, by first | (clear h_1 h_2 h_3 h_4 h_5 h_6 h_7 h_8 h_9 h_10 h_11 h_12 h_13 h_14 h_15 h_16 h_17 h_18 h_19 h_20 h_21 h_23 h_24 h_25 h_96 h_115 h_116 h_1362 h_1367 h_1368 h_1371 h_1372 h_1374 h_26 h_1373; omega) | omega⟩, by decide, by decide⟩ ?_
            refine q_iload_n rfl rfl ?_
            refine q_ldc_s rfl rfl rfl (by decide) ?_
            refine q_call rfl rfl rfl rfl (s_158_18 ?_)
            refine bk_inl ?_
            refine v_ic_eq_f (t := 36) rfl (by decide) ⟨by first | (clear h_1 h_2 h_3 h_4 h_5 h_6 h_7 h_8 h_9 h_10 h_11 h_12 h_13 h_14 h_15 h_16 h_17 h_18 h_19 h_20 h_21 h_23 h_24 h_25 h_96 h_115 h_116 h_1362 h_1367 h_1368 h_1371 h_1372 h_1374 h_26 h_1373; omega) | omega, ⟨by first | (clear h_1 h_2 h_3 h_4 h_5 h_6 h_7 h_8 h_9 h_10 h_11 h_12 h_13 h_14 h_15 h_16 h_17 h_18 h_19 h_20 h_21 h_23 h_24 h_25 h_96 h_115 h_116 h_1362 h_1367 h_1368 h_1371 h_1372 h_1374 h_26 h_1373; omega) | omega, by first | (clear h_1 h_2 h_3 h_4 h_5 h_6 h_7 h_8 h_9 h_10 h_11 h_12 h_13 h_14 h_15 h_16 h_17 h_18 h_19 h_20 h_21 h_23 h_24 h_25 h_96 h_115 h_116 h_1362 h_1367 h_1368 h_1371 h_1372 h_1374 h_26 h_1373; omega) | omega⟩, by decide, by decide⟩ ?_
            refine q_iload_n rfl rfl ?_
            refine q_ldc_s rfl rfl rfl (by decide) ?_
            refine q_call rfl rfl rfl rfl (s_158_19 ?_)
            refine bk_inl ?_
            refine v_ic_ne_f (t := 40) rfl (by decide) (by first | (clear h_1 h_2 h_3 h_4 h_5 h_6 h_7 h_8 h_9 h_10 h_11 h_12 h_13 h_14 h_15 h_16 h_17 h_18 h_19 h_20 h_21 h_23 h_24 h_25 h_96 h_115 h_116 h_1362 h_1367 h_1368 h_1371 h_1372 h_1374 h_26 h_1373; omega) | omega) ?_
            refine q_iconst rfl ?_
            refine q_goto (t := 41) rfl (by decide) ?_
            refine v_zret rfl rfl (by decide) ?_
            refine bk_inl ?_
            refine v_if_ne_t (t := 82) rfl (by decide) (by decide) ?_
            refine q_iload_n rfl rfl ?_
            refine v_bip rfl (by decide) ?_
            refine v_ic_eq_f (t := 96) rfl (by decide) ⟨by first | (clear h_1 h_2 h_3 h_4 h_5 h_6 h_7 h_8 h_9 h_10 h_11 h_12 h_13 h_14 h_15 h_16 h_17 h_18 h_19 h_20 h_21 h_23 h_24 h_25 h_96 h_115 h_116 h_1362 h_1367 h_1368 h_1371 h_1372 h_1374 h_1380 h_1381 h_26 h_1373; omega) | omega, ⟨(Int.le_trans (by decide) hv.1), (Int.le_trans hv.2 (by decide))⟩, by decide, by decide⟩ ?_
            refine q_aload_n rfl rfl ?_
            refine q_iload_n rfl rfl ?_
            refine v_cv rfl rfl rfl rfl (by decide) ⟨⟨rfl, rfl⟩, by decide, rfl⟩ (Nat.le_of_ble_eq_true rfl) (Nat.le_of_ble_eq_true rfl) ?_
            refine q_iload_n rfl rfl ?_
            refine q_ldc_s rfl rfl rfl (by decide) ?_
            refine q_call rfl rfl rfl rfl (s_158_16 ?_)
            refine bk_inl ?_
            refine v_ic_ne_t (t := 26) rfl (by decide) ⟨by first | (clear h_1 h_2 h_3 h_4 h_5 h_6 h_7 h_8 h_9 h_10 h_11 h_12 h_13 h_14 h_15 h_16 h_17 h_18 h_19 h_20 h_21 h_23 h_24 h_25 h_96 h_115 h_116 h_1362 h_1367 h_1368 h_1371 h_1372 h_1374 h_26 h_1373; omega) | omega, ⟨by first | (clear h_1 h_2 h_3 h_4 h_5 h_6 h_7 h_8 h_9 h_10 h_11 h_12 h_13 h_14 h_15 h_16 h_17 h_18 h_19 h_20 h_21 h_23 h_24 h_25 h_96 h_115 h_116 h_1362 h_1367 h_1368 h_1371 h_1372 h_1374 h_26 h_1373; omega) | omega, by first | (clear h_1 h_2 h_3 h_4 h_5 h_6 h_7 h_8 h_9 h_10 h_11 h_12 h_13 h_14 h_15 h_16 h_17 h_18 h_19 h_20 h_21 h_23 h_24 h_25 h_96 h_115 h_116 h_1362 h_1367 h_1368 h_1371 h_1372 h_1374 h_26 h_1373; omega) | omega⟩, by decide, by decide⟩ ?_
            refine q_iload_n rfl rfl ?_
            refine q_ldc_s rfl rfl rfl (by decide) ?_
            refine q_call rfl rfl rfl rfl (s_158_17 ?_)
            refine bk_inl ?_
            refine v_ic_ne_t (t := 51) rfl (by decide) ⟨by first | (clear h_1 h_2 h_3 h_4 h_5 h_6 h_7 h_8 h_9 h_10 h_11 h_12 h_13 h_14 h_15 h_16 h_17 h_18 h_19 h_20 h_21 h_23 h_24 h_25 h_96 h_115 h_116 h_1362 h_1367 h_1368 h_1371 h_1372 h_1374 h_26 h_1373; omega) | omega, ⟨by first | (clear h_1 h_2 h_3 h_4 h_5 h_6 h_7 h_8 h_9 h_10 h_11 h_12 h_13 h_14 h_15 h_16 h_17 h_18 h_19 h_20 h_21 h_23 h_24 h_25 h_96 h_115 h_116 h_1362 h_1367 h_1368 h_1371 h_1372 h_1374 h_26 h_1373; omega) | omega, by first | (clear h_1 h_2 h_3 h_4 h_5 h_6 h_7 h_8 h_9 h_10 h_11 h_12 h_13 h_14 h_15 h_16 h_17 h_18 h_19 h_20 h_21 h_23 h_24 h_25 h_96 h_115 h_116 h_1362 h_1367 h_1368 h_1371 h_1372 h_1374 h_26 h_1373; omega) | omega⟩, by decide, by decide⟩ ?_
            refine q_iload_n rfl rfl ?_
            refine q_ldc_s rfl rfl rfl (by decide) ?_
            refine q_call rfl rfl rfl rfl (s_158_18 ?_)
            refine bk_inl ?_
            refine v_ic_ne_t (t := 72) rfl (by decide) ⟨by first | (clear h_1 h_2 h_3 h_4 h_5 h_6 h_7 h_8 h_9 h_10 h_11 h_12 h_13 h_14 h_15 h_16 h_17 h_18 h_19 h_20 h_21 h_23 h_24 h_25 h_96 h_115 h_116 h_1362 h_1367 h_1368 h_1371 h_1372 h_1374 h_26 h_1373; omega) | omega, ⟨by first | (clear h_1 h_2 h_3 h_4 h_5 h_6 h_7 h_8 h_9 h_10 h_11 h_12 h_13 h_14 h_15 h_16 h_17 h_18 h_19 h_20 h_21 h_23 h_24 h_25 h_96 h_115 h_116 h_1362 h_1367 h_1368 h_1371 h_1372 h_1374 h_26 h_1373; omega) | omega, by first | (clear h_1 h_2 h_3 h_4 h_5 h_6 h_7 h_8 h_9 h_10 h_11 h_12 h_13 h_14 h_15 h_16 h_17 h_18 h_19 h_20 h_21 h_23 h_24 h_25 h_96 h_115 h_116 h_1362 h_1367 h_1368 h_1371 h_1372 h_1374 h_26 h_1373; omega) | omega⟩, by decide, by decide⟩ ?_
            refine q_iconst rfl ?_
            refine v_zret rfl rfl (by decide) ?_
            refine bk_inl ?_
            refine v_if_eq_t (t := 105) rfl (by decide) (by decide) ?_
            refine q_aload_n rfl rfl ?_
            refine v_cv rfl rfl rfl rfl (by decide) ⟨⟨rfl, rfl⟩, by decide, rfl⟩ (Nat.le_of_ble_eq_true rfl) (Nat.le_of_ble_eq_true rfl) ?_
            refine q_aload_n rfl rfl ?_
            have kn_1386 : Hid (c_1375 41 5 = (-1)) := (hF_1377 41 5 (fun h => absurd h.2 (ni rfl))).trans (hc_1)
            have kn_1387 : Hid (c_1382 41 5 = (-1)) := (hF_1384 41 5 (fun h => absurd h.2 (ni rfl))).trans (hid kn_1386)
            refine v_gi (z := 5) (v := (-1)) rfl rfl rfl (by decide) rfl rfl (hid kn_1387) ?_
            refine q_iconst rfl ?_
            refine v_ic_ne_f (t := 12) rfl (by decide) (by decide) ?_
            refine q_iconst rfl ?_
            refine q_goto (t := 13) rfl (by decide) ?_
            refine v_zret rfl rfl (by decide) ?_
            refine bk_inl ?_
            refine v_if_ne_t (t := 115) rfl (by decide) (by decide) ?_
            refine q_aload_n rfl rfl ?_
            have kn_1388 : Hid (c_1382 41 3 = e1) := (hF_1384 41 3 (fun h => absurd h.2 (ni rfl))).trans (hid kn_1379)
            refine v_cv rfl rfl rfl rfl (by decide) ⟨⟨rfl, rfl⟩, by decide, rfl⟩ (Nat.le_of_ble_eq_true rfl) (Nat.le_of_ble_eq_true rfl) (f_159 (e1 := e1) (a9 := (nx F e1 a)) (B := H) (L8 := (ln F e1 (nx F e1 a))) hI_1383 ((hid kn_1388)) ((hz_1385)) (fun j => ((hF_1384 43 j (fun h => absurd h.1 (nn rfl))).trans ((hF_1377 43 j (fun h => absurd h.1 (nn rfl))).trans (hFc 43 j (fun q => q.elim (fun h => absurd h.1 (nn rfl)) (fun q => q.elim (fun h => absurd h.1 (nn rfl)) (fun q => q.elim (fun h => absurd h.1 (nn rfl)) (fun q => q.elim (fun h => absurd h.1 (nn rfl)) (fun q => q.elim (fun h => absurd h.1 (nn rfl)) (fun q => q.elim (fun h => absurd h.1 (nn rfl)) (fun q => q.elim (fun h => absurd h.1 (nn rfl)) (fun q => q.elim (fun h => absurd h (nn rfl)) (fun q => q.elim (fun h => absurd h (nn rfl)) (fun h => absurd h (nn rfl)))))))))))))).trans (hH j)) ((ln_tr hU (by first | (clear h_1 h_2 h_3 h_4 h_5 h_6 h_7 h_8 h_9 h_10 h_11 h_12 h_13 h_14 h_15 h_16 h_17 h_18 h_19 h_20 h_21 h_23 h_25 h_115 h_116 h_1362 h_1367 h_1368 h_1371 h_1372 h_1374 h_1380 h_1381; omega) | omega) (by first | (clear h_3 h_4 h_5 h_6 h_7 h_8 h_9 h_10 h_11 h_12 h_13 h_14 h_15 h_16 h_17 h_18 h_19 h_20 h_21 h_23 h_25 h_115 h_116 h_1362 h_1367 h_1368 h_1371 h_1372 h_1374 h_1380 h_1381; omega) | omega)).trans (rfl)) (fun c_1389 hI_1390 hF_1391 hz_1392 => ?_))
            refine bk_inl ?_
            refine q_aload_n rfl rfl ?_
            refine q_iload_n rfl rfl ?_
            have hw_1393 : (wv F (nx F e1 a) (ln F e1 (nx F e1 a))) = 153204 := by omega
            rw [hw_1393]
            have kn_1394 : Hid (c_112 1 1 = e1) := (hF_114 1 1 (fun q => q.elim (fun h => absurd h.2 (ni rfl)) (fun q => q.elim (fun h => absurd h.2 (ni rfl)) (fun h => absurd h.2 (ni rfl))))).trans (hid kn_91)
            have kn_1395 : Hid (c_1389 41 3 = e1) := (hF_1391 41 3 (fun h => absurd h.2 (ni rfl))).trans (hid kn_1388)
            have kn_1396 : Hid (c_1375 41 16 = jr) := (hF_1377 41 16 (fun h => absurd h.2 (ni rfl))).trans (hr_jr)
            have kn_1397 : Hid (c_1382 41 16 = jr) := (hF_1384 41 16 (fun h => absurd h.2 (ni rfl))).trans (hid kn_1396)
            have kn_1398 : Hid (c_1389 41 16 = jr) := (hF_1391 41 16 (fun h => absurd h.2 (ni rfl))).trans (hid kn_1397)
            have kn_1399 : Hid (c_1375 41 17 = st) := (hF_1377 41 17 (fun h => absurd h.2 (ni rfl))).trans (hr_st)
            have kn_1400 : Hid (c_1382 41 17 = st) := (hF_1384 41 17 (fun h => absurd h.2 (ni rfl))).trans (hid kn_1399)
            have kn_1401 : Hid (c_1389 41 17 = st) := (hF_1391 41 17 (fun h => absurd h.2 (ni rfl))).trans (hid kn_1400)
            have kn_1402 : Hid (c_1375 41 18 = si) := (hF_1377 41 18 (fun h => absurd h.2 (ni rfl))).trans (hr_si)
            have kn_1403 : Hid (c_1382 41 18 = si) := (hF_1384 41 18 (fun h => absurd h.2 (ni rfl))).trans (hid kn_1402)
            have kn_1404 : Hid (c_1389 41 18 = si) := (hF_1391 41 18 (fun h => absurd h.2 (ni rfl))).trans (hid kn_1403)
            have kn_1405 : Hid (c_27 A 3 = du) := (hF_29 A 3 (fun h => absurd h.1 (np0 hA rfl))).trans (hg_du)
            have kn_1406 : Hid (c_87 A 3 = du) := (hF_89 A 3 (fun h => absurd h.1 (np0 hA rfl))).trans (hid kn_1405)
            have kn_1407 : Hid (c_112 A 3 = du) := (hF_114 A 3 (fun q => q.elim (fun h => absurd h.1 (np0 hA rfl)) (fun q => q.elim (fun h => absurd h.1 (np0 hA rfl)) (fun h => absurd h.1 (np0 hA rfl))))).trans (hid kn_1406)
            have kn_1408 : Hid (c_1375 41 19 = du) := (hF_1377 41 19 (fun h => absurd h.2 (ni rfl))).trans (hr_du)
            have kn_1409 : Hid (c_1382 41 19 = du) := (hF_1384 41 19 (fun h => absurd h.2 (ni rfl))).trans (hid kn_1408)
            have kn_1410 : Hid (c_1389 41 19 = du) := (hF_1391 41 19 (fun h => absurd h.2 (ni rfl))).trans (hid kn_1409)
            have h_1411 : c_112 1 4 = 0 := (hz_118)
            have h_1412 : c_112 1 2 = (ln F e1 (nx F e1 a)) := (hz_117)
            have h_1413 : c_112 1 5 = (-1) := (hz_119)
            have kn_1414 : Hid (c_1389 41 5 = (-1)) := (hF_1391 41 5 (fun h => absurd h.2 (ni rfl))).trans (hid kn_1387)
            have h_1415 : c_1389 41 5 = (-1) := (hid kn_1414)
            have h_1416 : c_1389 41 4 = (ln F e1 (nx F e1 a)) := (hz_1392)
            have h_1417 := ir_41_6 hI2
            have kn_1418 : Hid (c_1375 41 6 = c2 41 6) := hF_1377 41 6 (fun h => absurd h.2 (ni rfl))
            have kn_1419 : Hid (c_1382 41 6 = c2 41 6) := (hF_1384 41 6 (fun h => absurd h.2 (ni rfl))).trans (hid kn_1418)
            have kn_1420 : Hid (c_1389 41 6 = c2 41 6) := (hF_1391 41 6 (fun h => absurd h.2 (ni rfl))).trans (hid kn_1419)
            have h_1421 : c_1389 41 6 = c2 41 6 := (hid kn_1420)
            have hA_1422 : Ae (4 * jr) (c_112 (A + 1)) (c_1389 44) := ae_fr hrl0 (fun j => (hF_114 (A + 1) j (fun q => q.elim (fun h => absurd h.1 (np hA rfl rfl)) (fun q => q.elim (fun h => absurd h.1 (np hA rfl rfl)) (fun h => absurd h.1 (np hA rfl rfl))))).trans ((hF_89 (A + 1) j (fun h => absurd h.1 (np hA rfl rfl))).trans (hF_29 (A + 1) j (fun h => absurd h.1 (np hA rfl rfl))))) (fun j => (hF_1391 44 j (fun h => absurd h.1 (nn rfl))).trans ((hF_1384 44 j (fun h => absurd h.1 (nn rfl))).trans (hF_1377 44 j (fun h => absurd h.1 (nn rfl)))))
            have hA_1423 : Ae (3 * st) (c_112 (A + 2)) (c_1389 45) := ae_fr hrl1 (fun j => (hF_114 (A + 2) j (fun q => q.elim (fun h => absurd h.1 (np hA rfl rfl)) (fun q => q.elim (fun h => absurd h.1 (np hA rfl rfl)) (fun h => absurd h.1 (np hA rfl rfl))))).trans ((hF_89 (A + 2) j (fun h => absurd h.1 (np hA rfl rfl))).trans (hF_29 (A + 2) j (fun h => absurd h.1 (np hA rfl rfl))))) (fun j => (hF_1391 45 j (fun h => absurd h.1 (nn rfl))).trans ((hF_1384 45 j (fun h => absurd h.1 (nn rfl))).trans (hF_1377 45 j (fun h => absurd h.1 (nn rfl)))))
            have hA_1424 : Ae si (c_112 (A + 3)) (c_1389 46) := ae_fr hrl2 (fun j => (hF_114 (A + 3) j (fun q => q.elim (fun h => absurd h.1 (np hA rfl rfl)) (fun q => q.elim (fun h => absurd h.1 (np hA rfl rfl)) (fun h => absurd h.1 (np hA rfl rfl))))).trans ((hF_89 (A + 3) j (fun h => absurd h.1 (np hA rfl rfl))).trans (hF_29 (A + 3) j (fun h => absurd h.1 (np hA rfl rfl))))) (fun j => (hF_1391 46 j (fun h => absurd h.1 (nn rfl))).trans ((hF_1384 46 j (fun h => absurd h.1 (nn rfl))).trans (hF_1377 46 j (fun h => absurd h.1 (nn rfl)))))
            refine v_cv rfl rfl rfl rfl (by decide) ⟨⟨rfl, rfl⟩, by decide, rfl⟩ (Nat.le_of_ble_eq_true rfl) (Nat.le_of_ble_eq_true rfl) (L_33a_3 (m := c_112) (e1 := e1) (jr := jr) (st := st) (si := si) (du := du) (F := F) (H := H) hI_1390 hI_113 hI_1359 hA ((hid kn_1394)) ((hid kn_1395)) ((hid kn_1348)) ((hid kn_1398)) ((hid kn_1352)) ((hid kn_1401)) ((hid kn_1356)) ((hid kn_1404)) ((hid kn_1407)) ((hid kn_1410)) (fun j => ((hF_114 2 j (fun q => q.elim (fun h => absurd h.1 (nn rfl)) (fun q => q.elim (fun h => absurd h.1 (nn rfl)) (fun h => absurd h.1 (nn rfl))))).trans ((hF_89 2 j (fun h => absurd h.1 (nn rfl))).trans ((hF_29 2 j (fun h => absurd h.1 (nn rfl))).trans (hFm 2 j (fun q => q.elim (fun h => absurd h.1 (nn rfl)) (fun q => q.elim (fun h => absurd h.1 (nn rfl)) (fun q => q.elim (fun h => absurd h.1 (nn rfl)) (fun q => q.elim (fun h => absurd h.1 (pn0 hA rfl)) (fun q => q.elim (fun h => absurd h.1 (pn0 hA rfl)) (fun q => q.elim (fun h => absurd h.1 (pn0 hA rfl)) (fun q => q.elim (fun h => absurd h.1 (pn0 hA rfl)) (fun q => q.elim (fun h => absurd h (pn hA rfl rfl)) (fun q => q.elim (fun h => absurd h (pn hA rfl rfl)) (fun q => q.elim (fun h => absurd h (pn hA rfl rfl)) (fun q => q.elim (fun h => absurd h.1 (pn0 hA rfl)) (fun q => q.elim (fun h => absurd h.1 (pn0 hA rfl)) (fun q => q.elim (fun h => absurd h (pn hA rfl rfl)) (fun h => absurd h.1 (pn hA rfl rfl))))))))))))))))))).trans (hF j)) (fun j => ((hF_1391 43 j (fun h => absurd h.1 (nn rfl))).trans ((hF_1384 43 j (fun h => absurd h.1 (nn rfl))).trans ((hF_1377 43 j (fun h => absurd h.1 (nn rfl))).trans (hFc 43 j (fun q => q.elim (fun h => absurd h.1 (nn rfl)) (fun q => q.elim (fun h => absurd h.1 (nn rfl)) (fun q => q.elim (fun h => absurd h.1 (nn rfl)) (fun q => q.elim (fun h => absurd h.1 (nn rfl)) (fun q => q.elim (fun h => absurd h.1 (nn rfl)) (fun q => q.elim (fun h => absurd h.1 (nn rfl)) (fun q => q.elim (fun h => absurd h.1 (nn rfl)) (fun q => q.elim (fun h => absurd h (nn rfl)) (fun q => q.elim (fun h => absurd h (nn rfl)) (fun h => absurd h (nn rfl))))))))))))))).trans (hH j)) hU (rt_i1 ⟨by first | (clear h_1 h_2 h_3 h_4 h_5 h_6 h_7 h_8 h_9 h_10 h_11 h_12 h_13 h_14 h_15 h_16 h_17 h_18 h_19 h_20 h_21 h_23 h_24 h_25 h_96 h_115 h_116 h_1362 h_1367 h_1368 h_1371 h_1372 h_1374 h_1380 h_1381 h_1417 h_26 h_1373; omega) | omega, by first | (clear h_1 h_2 h_3 h_4 h_5 h_6 h_7 h_8 h_9 h_10 h_11 h_12 h_13 h_14 h_15 h_16 h_17 h_18 h_19 h_20 h_21 h_23 h_24 h_25 h_96 h_115 h_116 h_1362 h_1367 h_1368 h_1371 h_1372 h_1374 h_1380 h_1381 h_1417 h_26 h_1373; omega) | omega, by first | (clear h_1 h_2 h_3 h_4 h_5 h_6 h_7 h_8 h_9 h_10 h_11 h_12 h_13 h_14 h_15 h_16 h_17 h_18 h_19 h_20 h_21 h_23 h_24 h_25 h_96 h_115 h_116 h_1362 h_1367 h_1368 h_1371 h_1372 h_1374 h_1380 h_1381 h_1417 h_26 h_1373; omega) | omega, by first | (clear h_1 h_2 h_3 h_4 h_5 h_6 h_7 h_8 h_9 h_10 h_11 h_12 h_13 h_14 h_15 h_16 h_17 h_18 h_19 h_20 h_21 h_23 h_24 h_25 h_96 h_115 h_116 h_1362 h_1367 h_1368 h_1371 h_1372 h_1374 h_1380 h_1381 h_1417 h_26 h_1373; omega) | omega⟩) (ae_le hA_1422 (by omega)) (ae_le hA_1423 (by omega)) (ae_le hA_1424 (by omega)) hG_1361 (fun c_1425 hI_1426 hF_1427 hR_1429 h_1430 h_1431 h_1432 h_1433 hA_1434 hA_1435 hA_1436 => ?_))
            refine bk_inl ?_
            have h_1437 := ir_41_16 hI_1426
            have h_1438 := ir_p0_0 hI_1359 hA
            have h_1439 := ir_41_17 hI_1426
            have h_1440 := ir_p0_1 hI_1359 hA
            have h_1441 := ir_41_18 hI_1426
            have h_1442 := ir_p0_2 hI_1359 hA
            have h_1443 := ir_41_19 hI_1426
            have h_1444 := ir_p0_3 hI_1359 hA
            refine q_aload_n rfl rfl ?_
            refine v_bip rfl (by decide) ?_
            have kn_1445 : Hid (c_1358 1 1 = e1) := (hF_1360 1 1 (fun q => q.elim (fun h => absurd h.2 (ni rfl)) (fun q => q.elim (fun h => absurd h.2 (ni rfl)) (fun q => q.elim (fun h => absurd h.2 (ni rfl)) (fun q => q.elim (fun h => absurd h.1 (pn0 hA rfl)) (fun q => q.elim (fun h => absurd h.1 (pn0 hA rfl)) (fun q => q.elim (fun h => absurd h.1 (pn0 hA rfl)) (fun q => q.elim (fun h => absurd h.1 (pn0 hA rfl)) (fun q => q.elim (fun h => absurd h (pn hA rfl rfl)) (fun q => q.elim (fun h => absurd h (pn hA rfl rfl)) (fun h => absurd h (pn hA rfl rfl)))))))))))).trans (hid kn_1394)
            have kn_1446 : Hid (c_1425 41 3 = e1) := (hF_1427 41 3 (fun q => q.elim (fun h => absurd h.2 (ni rfl)) (fun q => q.elim (fun h => absurd h.2 (ni rfl)) (fun q => q.elim (fun h => absurd h.2 (ni rfl)) (fun q => q.elim (fun h => absurd h.2 (ni rfl)) (fun q => q.elim (fun h => absurd h.2 (ni rfl)) (fun q => q.elim (fun h => absurd h.2 (ni rfl)) (fun q => q.elim (fun h => absurd h.2 (ni rfl)) (fun q => q.elim (fun h => absurd h (nn rfl)) (fun q => q.elim (fun h => absurd h (nn rfl)) (fun h => absurd h (nn rfl)))))))))))).trans (hid kn_1395)
            have h_1447 := ir_1_2 hI_1359
            refine v_cv rfl rfl rfl rfl (by decide) ⟨⟨rfl, rfl⟩, by decide, rfl⟩ (Nat.le_of_ble_eq_true rfl) (Nat.le_of_ble_eq_true rfl) (L_11_9 (m := c_1358) (e1 := e1) (a9 := c_1358 1 2) (f0 := c_1358 1 4) (F := F) (H := H) hI_1426 hI_1359 hI_1364 ((hid kn_1445)) ((hid kn_1446)) (rfl) (rfl) (fun j => ((hF_1360 2 j (fun q => q.elim (fun h => absurd h.1 (nn rfl)) (fun q => q.elim (fun h => absurd h.1 (nn rfl)) (fun q => q.elim (fun h => absurd h.1 (nn rfl)) (fun q => q.elim (fun h => absurd h.1 (pn0 hA rfl)) (fun q => q.elim (fun h => absurd h.1 (pn0 hA rfl)) (fun q => q.elim (fun h => absurd h.1 (pn0 hA rfl)) (fun q => q.elim (fun h => absurd h.1 (pn0 hA rfl)) (fun q => q.elim (fun h => absurd h (pn hA rfl rfl)) (fun q => q.elim (fun h => absurd h (pn hA rfl rfl)) (fun h => absurd h (pn hA rfl rfl)))))))))))).trans ((hF_114 2 j (fun q => q.elim (fun h => absurd h.1 (nn rfl)) (fun q => q.elim (fun h => absurd h.1 (nn rfl)) (fun h => absurd h.1 (nn rfl))))).trans ((hF_89 2 j (fun h => absurd h.1 (nn rfl))).trans ((hF_29 2 j (fun h => absurd h.1 (nn rfl))).trans (hFm 2 j (fun q => q.elim (fun h => absurd h.1 (nn rfl)) (fun q => q.elim (fun h => absurd h.1 (nn rfl)) (fun q => q.elim (fun h => absurd h.1 (nn rfl)) (fun q => q.elim (fun h => absurd h.1 (pn0 hA rfl)) (fun q => q.elim (fun h => absurd h.1 (pn0 hA rfl)) (fun q => q.elim (fun h => absurd h.1 (pn0 hA rfl)) (fun q => q.elim (fun h => absurd h.1 (pn0 hA rfl)) (fun q => q.elim (fun h => absurd h (pn hA rfl rfl)) (fun q => q.elim (fun h => absurd h (pn hA rfl rfl)) (fun q => q.elim (fun h => absurd h (pn hA rfl rfl)) (fun q => q.elim (fun h => absurd h.1 (pn0 hA rfl)) (fun q => q.elim (fun h => absurd h.1 (pn0 hA rfl)) (fun q => q.elim (fun h => absurd h (pn hA rfl rfl)) (fun h => absurd h.1 (pn hA rfl rfl)))))))))))))))))))).trans (hF j)) (fun j => ((hF_1427 43 j (fun q => q.elim (fun h => absurd h.1 (nn rfl)) (fun q => q.elim (fun h => absurd h.1 (nn rfl)) (fun q => q.elim (fun h => absurd h.1 (nn rfl)) (fun q => q.elim (fun h => absurd h.1 (nn rfl)) (fun q => q.elim (fun h => absurd h.1 (nn rfl)) (fun q => q.elim (fun h => absurd h.1 (nn rfl)) (fun q => q.elim (fun h => absurd h.1 (nn rfl)) (fun q => q.elim (fun h => absurd h (nn rfl)) (fun q => q.elim (fun h => absurd h (nn rfl)) (fun h => absurd h (nn rfl)))))))))))).trans ((hF_1391 43 j (fun h => absurd h.1 (nn rfl))).trans ((hF_1384 43 j (fun h => absurd h.1 (nn rfl))).trans ((hF_1377 43 j (fun h => absurd h.1 (nn rfl))).trans (hFc 43 j (fun q => q.elim (fun h => absurd h.1 (nn rfl)) (fun q => q.elim (fun h => absurd h.1 (nn rfl)) (fun q => q.elim (fun h => absurd h.1 (nn rfl)) (fun q => q.elim (fun h => absurd h.1 (nn rfl)) (fun q => q.elim (fun h => absurd h.1 (nn rfl)) (fun q => q.elim (fun h => absurd h.1 (nn rfl)) (fun q => q.elim (fun h => absurd h.1 (nn rfl)) (fun q => q.elim (fun h => absurd h (nn rfl)) (fun q => q.elim (fun h => absurd h (nn rfl)) (fun h => absurd h (nn rfl)))))))))))))))).trans (hH j)) hU hR_1429 hG_1366 (fun c_1448 hI_1449 hF_1450 hR_1452 h_1453 h_1454 => ?_))
            refine bk_inl ?_
            have h_1455 := ir_1_2 hI_1364
            refine v_iinc (v := v + 1) rfl rfl (by decide) rfl ?_
            refine q_goto (t := 44) rfl (by decide) ?_
            refine Wp_ls [(0, .ref 41), (1, vi a1), (2, vi (v + 1))] (lsub_cons rfl (lsub_cons rfl (lsub_cons rfl lsub_nil))) ?_
            have h_1456 := ir_41_4 hI_1449
            have h_1457 := ir_1_5 hI_1364
            have h_1458 := ir_41_5 hI_1449
            have h_1459 := ir_41_6 hI_1449
            have h_1460 := rt_ok hR_1452 (by omega)
            have hro_hR_1452 := rt_ok hR_1452 (by omega)
            have kn_1461 : Hid (c_1363 A 0 = c_1358 A 0) := hF_1365 A 0 (fun q => q.elim (fun h => absurd h.1 (np0 hA rfl)) (fun q => q.elim (fun h => absurd h.1 (np0 hA rfl)) (fun h => absurd h.1 (np0 hA rfl))))
            have kn_1462 : Hid (c_1448 41 16 = c_1425 41 16) := hF_1450 41 16 (fun q => q.elim (fun h => absurd h.2 (ni rfl)) (fun q => q.elim (fun h => absurd h.2 (ni rfl)) (fun h => absurd h.2 (ni rfl))))
            have kn_1463 : Hid (c_1363 A 1 = c_1358 A 1) := hF_1365 A 1 (fun q => q.elim (fun h => absurd h.1 (np0 hA rfl)) (fun q => q.elim (fun h => absurd h.1 (np0 hA rfl)) (fun h => absurd h.1 (np0 hA rfl))))
            have kn_1464 : Hid (c_1448 41 17 = c_1425 41 17) := hF_1450 41 17 (fun q => q.elim (fun h => absurd h.2 (ni rfl)) (fun q => q.elim (fun h => absurd h.2 (ni rfl)) (fun h => absurd h.2 (ni rfl))))
            have kn_1465 : Hid (c_1363 A 2 = c_1358 A 2) := hF_1365 A 2 (fun q => q.elim (fun h => absurd h.1 (np0 hA rfl)) (fun q => q.elim (fun h => absurd h.1 (np0 hA rfl)) (fun h => absurd h.1 (np0 hA rfl))))
            have kn_1466 : Hid (c_1448 41 18 = c_1425 41 18) := hF_1450 41 18 (fun q => q.elim (fun h => absurd h.2 (ni rfl)) (fun q => q.elim (fun h => absurd h.2 (ni rfl)) (fun h => absurd h.2 (ni rfl))))
            have kn_1467 : Hid (c_1363 A 3 = c_1358 A 3) := hF_1365 A 3 (fun q => q.elim (fun h => absurd h.1 (np0 hA rfl)) (fun q => q.elim (fun h => absurd h.1 (np0 hA rfl)) (fun h => absurd h.1 (np0 hA rfl))))
            have kn_1468 : Hid (c_1448 41 19 = c_1425 41 19) := hF_1450 41 19 (fun q => q.elim (fun h => absurd h.2 (ni rfl)) (fun q => q.elim (fun h => absurd h.2 (ni rfl)) (fun h => absurd h.2 (ni rfl))))
            have hA_1469 : Ae (4 * c_1425 41 16) (c_1363 (A + 1)) (c_1448 44) := ae_fr hA_1434 (fun j => hF_1365 (A + 1) j (fun q => q.elim (fun h => absurd h.1 (np hA rfl rfl)) (fun q => q.elim (fun h => absurd h.1 (np hA rfl rfl)) (fun h => absurd h.1 (np hA rfl rfl))))) (fun j => hF_1450 44 j (fun q => q.elim (fun h => absurd h.1 (nn rfl)) (fun q => q.elim (fun h => absurd h.1 (nn rfl)) (fun h => absurd h.1 (nn rfl)))))
            have hA_1470 : Ae (4 * c_1358 A 0) (c_1363 (A + 1)) (c_1448 44) := ae_le hA_1469 (by omega)
            have hA_1471 : Ae (3 * c_1425 41 17) (c_1363 (A + 2)) (c_1448 45) := ae_fr hA_1435 (fun j => hF_1365 (A + 2) j (fun q => q.elim (fun h => absurd h.1 (np hA rfl rfl)) (fun q => q.elim (fun h => absurd h.1 (np hA rfl rfl)) (fun h => absurd h.1 (np hA rfl rfl))))) (fun j => hF_1450 45 j (fun q => q.elim (fun h => absurd h.1 (nn rfl)) (fun q => q.elim (fun h => absurd h.1 (nn rfl)) (fun h => absurd h.1 (nn rfl)))))
            have hA_1472 : Ae (3 * c_1358 A 1) (c_1363 (A + 2)) (c_1448 45) := ae_le hA_1471 (by omega)
            have hA_1473 : Ae (c_1425 41 18) (c_1363 (A + 3)) (c_1448 46) := ae_fr hA_1436 (fun j => hF_1365 (A + 3) j (fun q => q.elim (fun h => absurd h.1 (np hA rfl rfl)) (fun q => q.elim (fun h => absurd h.1 (np hA rfl rfl)) (fun h => absurd h.1 (np hA rfl rfl))))) (fun j => hF_1450 46 j (fun q => q.elim (fun h => absurd h.1 (nn rfl)) (fun q => q.elim (fun h => absurd h.1 (nn rfl)) (fun h => absurd h.1 (nn rfl)))))
            have hA_1474 : Ae (c_1358 A 2) (c_1363 (A + 3)) (c_1448 46) := ae_le hA_1473 (by omega)
            exact ih c_1448 c_1363 (v + 1) (c_1363 1 2) (c_1358 A 0) (c_1358 A 1) (c_1358 A 2) (c_1358 A 3) hI_1449 (fun a j hm => (hF_1450 a j (fun q => q.elim (fun h => hm (Or.inl h)) (fun q => q.elim (fun h => hm (Or.inr (Or.inl h))) (fun h => hm (Or.inr (Or.inr (Or.inl h))))))).trans ((hF_1427 a j (fun q => q.elim (fun h => hm (Or.inl h)) (fun q => q.elim (fun h => hm (Or.inr (Or.inl h))) (fun q => q.elim (fun h => hm (Or.inr (Or.inr (Or.inl h)))) (fun q => q.elim (fun h => hm (Or.inr (Or.inr (Or.inr (Or.inl h))))) (fun q => q.elim (fun h => hm (Or.inr (Or.inr (Or.inr (Or.inr (Or.inl h)))))) (fun q => q.elim (fun h => hm (Or.inr (Or.inr (Or.inr (Or.inr (Or.inr (Or.inl h))))))) (fun q => q.elim (fun h => hm (Or.inr (Or.inr (Or.inr (Or.inr (Or.inr (Or.inr (Or.inl h)))))))) (fun q => q.elim (fun h => hm (Or.inr (Or.inr (Or.inr (Or.inr (Or.inr (Or.inr (Or.inr (Or.inl h))))))))) (fun q => q.elim (fun h => hm (Or.inr (Or.inr (Or.inr (Or.inr (Or.inr (Or.inr (Or.inr (Or.inr (Or.inl h)))))))))) (fun h => hm (Or.inr (Or.inr (Or.inr (Or.inr (Or.inr (Or.inr (Or.inr (Or.inr (Or.inr h)))))))))))))))))))).trans ((hF_1391 a j (fun h => hm (Or.inl h))).trans ((hF_1384 a j (fun h => hm (Or.inl h))).trans ((hF_1377 a j (fun h => hm (Or.inl h))).trans (hFc a j (fun q => q.elim (fun h => hm (Or.inl h)) (fun q => q.elim (fun h => hm (Or.inr (Or.inl h))) (fun q => q.elim (fun h => hm (Or.inr (Or.inr (Or.inl h)))) (fun q => q.elim (fun h => hm (Or.inr (Or.inr (Or.inr (Or.inl h))))) (fun q => q.elim (fun h => hm (Or.inr (Or.inr (Or.inr (Or.inr (Or.inl h)))))) (fun q => q.elim (fun h => hm (Or.inr (Or.inr (Or.inr (Or.inr (Or.inr (Or.inl h))))))) (fun q => q.elim (fun h => hm (Or.inr (Or.inr (Or.inr (Or.inr (Or.inr (Or.inr (Or.inl h)))))))) (fun q => q.elim (fun h => hm (Or.inr (Or.inr (Or.inr (Or.inr (Or.inr (Or.inr (Or.inr (Or.inl h))))))))) (fun q => q.elim (fun h => hm (Or.inr (Or.inr (Or.inr (Or.inr (Or.inr (Or.inr (Or.inr (Or.inr (Or.inl h)))))))))) (fun h => hm (Or.inr (Or.inr (Or.inr (Or.inr (Or.inr (Or.inr (Or.inr (Or.inr (Or.inr h))))))))))))))))))))))))) hI_1364 (fun a j hm => (hF_1365 a j (fun q => q.elim (fun h => hm (Or.inl h)) (fun q => q.elim (fun h => hm (Or.inr (Or.inl h))) (fun h => hm (Or.inr (Or.inr (Or.inl h))))))).trans ((hF_1360 a j (fun q => q.elim (fun h => hm (Or.inl h)) (fun q => q.elim (fun h => hm (Or.inr (Or.inl h))) (fun q => q.elim (fun h => hm (Or.inr (Or.inr (Or.inl h)))) (fun q => q.elim (fun h => hm (Or.inr (Or.inr (Or.inr (Or.inl h))))) (fun q => q.elim (fun h => hm (Or.inr (Or.inr (Or.inr (Or.inr (Or.inl h)))))) (fun q => q.elim (fun h => hm (Or.inr (Or.inr (Or.inr (Or.inr (Or.inr (Or.inl h))))))) (fun q => q.elim (fun h => hm (Or.inr (Or.inr (Or.inr (Or.inr (Or.inr (Or.inr (Or.inl h)))))))) (fun q => q.elim (fun h => hm (Or.inr (Or.inr (Or.inr (Or.inr (Or.inr (Or.inr (Or.inr (Or.inl h))))))))) (fun q => q.elim (fun h => hm (Or.inr (Or.inr (Or.inr (Or.inr (Or.inr (Or.inr (Or.inr (Or.inr (Or.inl h)))))))))) (fun h => hm (Or.inr (Or.inr (Or.inr (Or.inr (Or.inr (Or.inr (Or.inr (Or.inr (Or.inr (Or.inl h))))))))))))))))))))).trans ((hF_114 a j (fun q => q.elim (fun h => hm (Or.inl h)) (fun q => q.elim (fun h => hm (Or.inr (Or.inl h))) (fun h => hm (Or.inr (Or.inr (Or.inl h))))))).trans ((hF_89 a j (fun h => hm (Or.inl h))).trans ((hF_29 a j (fun h => hm (Or.inl h))).trans (hFm a j (fun q => q.elim (fun h => hm (Or.inl h)) (fun q => q.elim (fun h => hm (Or.inr (Or.inl h))) (fun q => q.elim (fun h => hm (Or.inr (Or.inr (Or.inl h)))) (fun q => q.elim (fun h => hm (Or.inr (Or.inr (Or.inr (Or.inl h))))) (fun q => q.elim (fun h => hm (Or.inr (Or.inr (Or.inr (Or.inr (Or.inl h)))))) (fun q => q.elim (fun h => hm (Or.inr (Or.inr (Or.inr (Or.inr (Or.inr (Or.inl h))))))) (fun q => q.elim (fun h => hm (Or.inr (Or.inr (Or.inr (Or.inr (Or.inr (Or.inr (Or.inl h)))))))) (fun q => q.elim (fun h => hm (Or.inr (Or.inr (Or.inr (Or.inr (Or.inr (Or.inr (Or.inr (Or.inl h))))))))) (fun q => q.elim (fun h => hm (Or.inr (Or.inr (Or.inr (Or.inr (Or.inr (Or.inr (Or.inr (Or.inr (Or.inl h)))))))))) (fun q => q.elim (fun h => hm (Or.inr (Or.inr (Or.inr (Or.inr (Or.inr (Or.inr (Or.inr (Or.inr (Or.inr (Or.inl h))))))))))) (fun q => q.elim (fun h => hm (Or.inr (Or.inr (Or.inr (Or.inr (Or.inr (Or.inr (Or.inr (Or.inr (Or.inr (Or.inr (Or.inl h)))))))))))) (fun q => q.elim (fun h => hm (Or.inr (Or.inr (Or.inr (Or.inr (Or.inr (Or.inr (Or.inr (Or.inr (Or.inr (Or.inr (Or.inr (Or.inl h))))))))))))) (fun q => q.elim (fun h => hm (Or.inr (Or.inr (Or.inr (Or.inr (Or.inr (Or.inr (Or.inr (Or.inr (Or.inr (Or.inr (Or.inr (Or.inr (Or.inl h)))))))))))))) (fun h => hm (Or.inr (Or.inr (Or.inr (Or.inr (Or.inr (Or.inr (Or.inr (Or.inr (Or.inr (Or.inr (Or.inr (Or.inr (Or.inr h))))))))))))))))))))))))))))))))) ⟨by omega, by omega⟩ ⟨by omega, by omega⟩ ⟨by omega, by omega⟩ ⟨by omega, by omega⟩ ⟨by omega, by omega⟩ ⟨by omega, by omega⟩ (rfl) (hro_hR_1452.2.2.1) ((hid kn_1461)) ((show _ = c_1425 41 16 from (hid kn_1462)).trans (by omega)) ((hid kn_1463)) ((show _ = c_1425 41 17 from (hid kn_1464)).trans (by omega)) ((hid kn_1465)) ((show _ = c_1425 41 18 from (hid kn_1466)).trans (by omega)) ((hid kn_1467)) ((show _ = c_1425 41 19 from (hid kn_1468)).trans (by omega)) ((show _ = c_1363 1 4 from rfl).trans (by omega)) (hro_hR_1452.2.1) ((show _ = c_1363 1 5 from rfl).trans (by omega)) (ae_le hA_1470 (by omega)) (ae_le hA_1472 (by omega)) (ae_le hA_1474 (by omega)) hG_1369 (by omega)
          · skip
            refine q_iload_n rfl rfl ?_
            refine v_bip rfl (by decide) ?_
            refine v_ic_gt_f (t := 85) rfl (by decide) ⟨by first | exact rgp_l hv.1 (by decide) | omega, by first | (clear h_1 h_2 h_3 h_4 h_5 h_6 h_7 h_8 h_9 h_10 h_11 h_12 h_13 h_14 h_15 h_16 h_17 h_18 h_19 h_20 h_21 h_23 h_24 h_25 h_96 h_115 h_116 h_1362 h_1367 h_26; omega) | omega, by decide⟩ ?_
            refine q_aload_n rfl rfl ?_
            refine v_cv rfl rfl rfl rfl (by decide) ⟨⟨rfl, rfl⟩, by decide, rfl⟩ (Nat.le_of_ble_eq_true rfl) (Nat.le_of_ble_eq_true rfl) ?_
            refine q_aload_n rfl rfl ?_
            refine v_cv rfl rfl rfl rfl (by decide) ⟨⟨rfl, rfl⟩, by decide, rfl⟩ (Nat.le_of_ble_eq_true rfl) (Nat.le_of_ble_eq_true rfl) ?_
            refine q_aload_n rfl rfl ?_
            refine v_gi (z := 4) (v := c_1363 1 4) rfl rfl rfl (by decide) rfl rfl rfl ?_
            refine v_if_ne_t (t := 11) rfl (by decide) ⟨by first | (clear h_1 h_2 h_3 h_4 h_5 h_6 h_7 h_8 h_9 h_10 h_11 h_12 h_13 h_14 h_15 h_16 h_17 h_18 h_19 h_20 h_21 h_23 h_24 h_25 h_96 h_115 h_116 h_1362 h_1367 h_26; omega) | omega, ⟨(Int.le_trans (by decide) h_1367.1), (Int.le_trans h_1367.2 (by decide))⟩, by decide, by decide⟩ ?_
            refine q_iconst rfl ?_
            refine v_zret rfl rfl (by decide) ?_
            refine bk_inl ?_
            refine v_if_eq_t (t := 22) rfl (by decide) (by decide) ?_
            refine q_iconst rfl ?_
            refine v_zret rfl rfl (by decide) ?_
            refine bk_inl ?_
            refine v_if_eq_t (t := 85) rfl (by decide) (by decide) ?_
            refine q_vret rfl rfl ?_
            intro hE_1475
            have hW : Wd P Q P P c_1363 = Wd P Q P P m9 := (Prod.mk.inj (Prod.mk.inj hE_1475).2).1
            have h_1476 := ir_1_4 hJ9
            have h_1477 : m9 1 4 = c_1363 1 4 := wd_fv (z := 4) 4 rfl hW rfl rfl rfl rfl (by decide) rfl ⟨(Int.le_trans (by decide) h_1367.1), (Int.le_trans h_1367.2 (by decide))⟩ ⟨(Int.le_trans (by decide) h_1476.1), (Int.le_trans h_1476.2 (by decide))⟩
            have h_1478 := ir_1_2 hI_1364
            have h_1479 := ir_1_2 hJ9
            have h_1480 : m9 1 2 = c_1363 1 2 := wd_fv (z := 2) 2 rfl hW rfl rfl rfl rfl (by decide) rfl ⟨(Int.le_trans (by decide) h_1478.1), (Int.le_trans h_1478.2 (by decide))⟩ ⟨(Int.le_trans (by decide) h_1479.1), (Int.le_trans h_1479.2 (by decide))⟩
            have h_1481 := ir_1_5 hI_1364
            have h_1482 := ir_1_5 hJ9
            have h_1483 : m9 1 5 = c_1363 1 5 := wd_fv (z := 5) 5 rfl hW rfl rfl rfl rfl (by decide) rfl ⟨(Int.le_trans (by decide) h_1481.1), (Int.le_trans h_1481.2 (by decide))⟩ ⟨(Int.le_trans (by decide) h_1482.1), (Int.le_trans h_1482.2 (by decide))⟩
            have h_1484 := ir_p0_0 hI_1359 hA
            have kn_1485 : Hid (c_1363 A 0 = c_1358 A 0) := hF_1365 A 0 (fun q => q.elim (fun h => absurd h.1 (np0 hA rfl)) (fun q => q.elim (fun h => absurd h.1 (np0 hA rfl)) (fun h => absurd h.1 (np0 hA rfl))))
            have h_1486 := ir_p0_0 hJ9 hA
            have h_1487 : m9 A 0 = c_1358 A 0 := wd_fv (z := 0) 0 rfl hW (ck_p0 hA) (ck_p0 hA) rfl rfl (by omega) (hid kn_1485) ⟨by first | (clear h_1 h_2 h_3 h_4 h_5 h_6 h_7 h_8 h_9 h_10 h_11 h_12 h_13 h_14 h_15 h_16 h_17 h_18 h_19 h_20 h_21 h_23 h_24 h_25 h_96 h_115 h_116 h_1362 h_1367 h_1476 h_1477 h_1478 h_1479 h_1480 h_1481 h_1482 h_1483 h_1486 h_26; omega) | omega, by first | (clear h_1 h_2 h_3 h_4 h_5 h_6 h_7 h_8 h_9 h_10 h_11 h_12 h_13 h_14 h_15 h_16 h_17 h_18 h_19 h_20 h_21 h_23 h_24 h_25 h_96 h_115 h_116 h_1362 h_1367 h_1476 h_1477 h_1478 h_1479 h_1480 h_1481 h_1482 h_1483 h_1486 h_26; omega) | omega⟩ ⟨(Int.le_trans (by decide) h_1486.1), (Int.le_trans h_1486.2 (by decide))⟩
            have h_1488 := ir_p0_1 hI_1359 hA
            have kn_1489 : Hid (c_1363 A 1 = c_1358 A 1) := hF_1365 A 1 (fun q => q.elim (fun h => absurd h.1 (np0 hA rfl)) (fun q => q.elim (fun h => absurd h.1 (np0 hA rfl)) (fun h => absurd h.1 (np0 hA rfl))))
            have h_1490 := ir_p0_1 hJ9 hA
            have h_1491 : m9 A 1 = c_1358 A 1 := wd_fv (z := 1) 1 rfl hW (ck_p0 hA) (ck_p0 hA) rfl rfl (by omega) (hid kn_1489) ⟨by first | (clear h_1 h_2 h_3 h_4 h_5 h_6 h_7 h_8 h_9 h_10 h_11 h_12 h_13 h_14 h_15 h_16 h_17 h_18 h_19 h_20 h_21 h_23 h_24 h_25 h_96 h_115 h_116 h_1362 h_1367 h_1476 h_1477 h_1478 h_1479 h_1480 h_1481 h_1482 h_1483 h_1484 h_1486 h_1487 h_1490 h_26; omega) | omega, by first | (clear h_1 h_2 h_3 h_4 h_5 h_6 h_7 h_8 h_9 h_10 h_11 h_12 h_13 h_14 h_15 h_16 h_17 h_18 h_19 h_20 h_21 h_23 h_24 h_25 h_96 h_115 h_116 h_1362 h_1367 h_1476 h_1477 h_1478 h_1479 h_1480 h_1481 h_1482 h_1483 h_1484 h_1486 h_1487 h_1490 h_26; omega) | omega⟩ ⟨(Int.le_trans (by decide) h_1490.1), (Int.le_trans h_1490.2 (by decide))⟩
            have h_1492 := ir_p0_2 hI_1359 hA
            have kn_1493 : Hid (c_1363 A 2 = c_1358 A 2) := hF_1365 A 2 (fun q => q.elim (fun h => absurd h.1 (np0 hA rfl)) (fun q => q.elim (fun h => absurd h.1 (np0 hA rfl)) (fun h => absurd h.1 (np0 hA rfl))))
            have h_1494 := ir_p0_2 hJ9 hA
            have h_1495 : m9 A 2 = c_1358 A 2 := wd_fv (z := 2) 2 rfl hW (ck_p0 hA) (ck_p0 hA) rfl rfl (by omega) (hid kn_1493) ⟨by first | (clear h_1 h_2 h_3 h_4 h_5 h_6 h_7 h_8 h_9 h_10 h_11 h_12 h_13 h_14 h_15 h_16 h_17 h_18 h_19 h_20 h_21 h_23 h_24 h_25 h_96 h_115 h_116 h_1362 h_1367 h_1476 h_1477 h_1478 h_1479 h_1480 h_1481 h_1482 h_1483 h_1484 h_1486 h_1487 h_1488 h_1490 h_1491 h_1494 h_26; omega) | omega, by first | (clear h_1 h_2 h_3 h_4 h_5 h_6 h_7 h_8 h_9 h_10 h_11 h_12 h_13 h_14 h_15 h_16 h_17 h_18 h_19 h_20 h_21 h_23 h_24 h_25 h_96 h_115 h_116 h_1362 h_1367 h_1476 h_1477 h_1478 h_1479 h_1480 h_1481 h_1482 h_1483 h_1484 h_1486 h_1487 h_1488 h_1490 h_1491 h_1494 h_26; omega) | omega⟩ ⟨(Int.le_trans (by decide) h_1494.1), (Int.le_trans h_1494.2 (by decide))⟩
            have h_1496 := ir_p0_3 hI_1359 hA
            have kn_1497 : Hid (c_1363 A 3 = c_1358 A 3) := hF_1365 A 3 (fun q => q.elim (fun h => absurd h.1 (np0 hA rfl)) (fun q => q.elim (fun h => absurd h.1 (np0 hA rfl)) (fun h => absurd h.1 (np0 hA rfl))))
            have h_1498 := ir_p0_3 hJ9 hA
            have h_1499 : m9 A 3 = c_1358 A 3 := wd_fv (z := 3) 3 rfl hW (ck_p0 hA) (ck_p0 hA) rfl rfl (by omega) (hid kn_1497) ⟨by first | (clear h_1 h_2 h_3 h_4 h_5 h_6 h_7 h_8 h_9 h_10 h_11 h_12 h_13 h_14 h_15 h_16 h_17 h_18 h_19 h_20 h_21 h_23 h_24 h_25 h_96 h_115 h_116 h_1362 h_1367 h_1476 h_1477 h_1478 h_1479 h_1480 h_1481 h_1482 h_1483 h_1484 h_1486 h_1487 h_1488 h_1490 h_1491 h_1492 h_1494 h_1495 h_1498 h_26; omega) | omega, by first | (clear h_1 h_2 h_3 h_4 h_5 h_6 h_7 h_8 h_9 h_10 h_11 h_12 h_13 h_14 h_15 h_16 h_17 h_18 h_19 h_20 h_21 h_23 h_24 h_25 h_96 h_115 h_116 h_1362 h_1367 h_1476 h_1477 h_1478 h_1479 h_1480 h_1481 h_1482 h_1483 h_1484 h_1486 h_1487 h_1488 h_1490 h_1491 h_1492 h_1494 h_1495 h_1498 h_26; omega) | omega⟩ ⟨(Int.le_trans (by decide) h_1498.1), (Int.le_trans h_1498.2 (by decide))⟩
            refine q_aload_n rfl rfl ?_
            refine v_cv rfl rfl rfl rfl (by decide) ⟨⟨rfl, rfl⟩, by decide, rfl⟩ (Nat.le_of_ble_eq_true rfl) (Nat.le_of_ble_eq_true rfl) ?_
            refine q_aload_n rfl rfl ?_
            refine v_gi (z := 5) (v := (-1)) rfl rfl rfl (by decide) rfl rfl (hc_1) ?_
            refine q_iconst rfl ?_
            refine v_ic_ne_f (t := 12) rfl (by decide) (by decide) ?_
            refine q_iconst rfl ?_
            refine q_goto (t := 13) rfl (by decide) ?_
            refine v_zret rfl rfl (by decide) ?_
            refine bk_inl ?_
            refine v_if_eq_f (t := 136) rfl (by decide) (by decide) ?_
            refine q_aload_n rfl rfl ?_
            refine v_cv rfl rfl rfl rfl (by decide) ⟨⟨rfl, rfl⟩, by decide, rfl⟩ (Nat.le_of_ble_eq_true rfl) (Nat.le_of_ble_eq_true rfl) ?_
            refine q_aload_n rfl rfl ?_
            have kn_1500 : Hid (c2 41 3 = e1) := (hFc 41 3 (fun q => q.elim (fun h => absurd h.2 (ni rfl)) (fun q => q.elim (fun h => absurd h.2 (ni rfl)) (fun q => q.elim (fun h => absurd h.2 (ni rfl)) (fun q => q.elim (fun h => absurd h.2 (ni rfl)) (fun q => q.elim (fun h => absurd h.2 (ni rfl)) (fun q => q.elim (fun h => absurd h.2 (ni rfl)) (fun q => q.elim (fun h => absurd h.2 (ni rfl)) (fun q => q.elim (fun h => absurd h (nn rfl)) (fun q => q.elim (fun h => absurd h (nn rfl)) (fun h => absurd h (nn rfl)))))))))))).trans (hr_e1)
            have h_1501 : -2147483648 ≤ (H (nx F e1 a)) ∧ (H (nx F e1 a)) ≤ 2147483647 := by rw [← hH (nx F e1 a)]; exact ir_43 hI (nx F e1 a)
            have h_1502 := hU (nx F e1 a) (by omega) (by omega)
            have h_1503 := hb_or (b := H) (e := e1) (r := (nx F e1 a))
            have h_1504 := hb_bd (b := H) (e := e1) (r := (nx F e1 a)) (lo := -2147483648) (hi := 2147483647) ⟨by omega, by omega⟩ (by decide)
            refine v_cv rfl rfl rfl rfl (by decide) ⟨⟨rfl, rfl⟩, by decide, rfl⟩ (Nat.le_of_ble_eq_true rfl) (Nat.le_of_ble_eq_true rfl) (f_154 (e1 := e1) (a9 := a) (B := H) (r8 := (nx F e1 a)) (r := (hb H e1 (nx F e1 a))) hI2 ((hid kn_1500)) ((hr_a)) (fun j => (hFc 43 j (fun q => q.elim (fun h => absurd h.1 (nn rfl)) (fun q => q.elim (fun h => absurd h.1 (nn rfl)) (fun q => q.elim (fun h => absurd h.1 (nn rfl)) (fun q => q.elim (fun h => absurd h.1 (nn rfl)) (fun q => q.elim (fun h => absurd h.1 (nn rfl)) (fun q => q.elim (fun h => absurd h.1 (nn rfl)) (fun q => q.elim (fun h => absurd h.1 (nn rfl)) (fun q => q.elim (fun h => absurd h (nn rfl)) (fun q => q.elim (fun h => absurd h (nn rfl)) (fun h => absurd h (nn rfl)))))))))))).trans (hH j)) ((nx_tr hU (by first | (clear h_1 h_2 h_3 h_4 h_5 h_6 h_7 h_8 h_9 h_10 h_11 h_12 h_13 h_14 h_15 h_16 h_17 h_18 h_19 h_20 h_21 h_23 h_24 h_25 h_96 h_115 h_116 h_1362 h_1367 h_1476 h_1477 h_1478 h_1479 h_1480 h_1481 h_1482 h_1483 h_1484 h_1486 h_1487 h_1488 h_1490 h_1491 h_1492 h_1494 h_1495 h_1496 h_1498 h_1499 h_26; omega) | omega) (by first | (clear h_3 h_4 h_5 h_6 h_7 h_8 h_9 h_10 h_11 h_12 h_13 h_14 h_15 h_16 h_17 h_18 h_19 h_20 h_21 h_23 h_25 h_115 h_116 h_1362 h_1367 h_1476 h_1477 h_1478 h_1479 h_1480 h_1481 h_1482 h_1483 h_1484 h_1486 h_1487 h_1488 h_1490 h_1491 h_1492 h_1494 h_1495 h_1496 h_1498 h_1499; omega) | omega)).trans (rfl)) rfl (fun c_1505 hI_1506 hF_1507 h_1508 => ?_))
            refine bk_inl ?_
            refine q_pop rfl rfl ?_
            refine q_aload_n rfl rfl ?_
            refine v_gi (z := 4) (v := (nx F e1 a)) rfl rfl rfl (by decide) rfl rfl (h_1508) ?_
            refine q_aload_n rfl rfl ?_
            have kn_1509 : Hid (c_1505 41 3 = e1) := (hF_1507 41 3 (fun h => absurd h.2 (ni rfl))).trans (hid kn_1500)
            refine v_gi (z := 3) (v := e1) rfl rfl rfl (by decide) rfl rfl (hid kn_1509) ?_
            refine v_ic_ge_f (t := 20) rfl (by decide) ⟨by first | (clear h_1 h_2 h_3 h_4 h_5 h_6 h_7 h_8 h_9 h_10 h_11 h_12 h_13 h_14 h_15 h_16 h_17 h_18 h_19 h_20 h_21 h_23 h_25 h_115 h_116 h_1362 h_1367 h_1476 h_1477 h_1478 h_1479 h_1480 h_1481 h_1482 h_1483 h_1484 h_1486 h_1487 h_1488 h_1490 h_1491 h_1492 h_1494 h_1495 h_1496 h_1498 h_1499 h_1501 h_1502 h_1504; omega) | omega, by first | (clear h_1 h_2 h_3 h_4 h_5 h_6 h_7 h_8 h_9 h_10 h_11 h_12 h_13 h_14 h_15 h_16 h_17 h_18 h_19 h_20 h_21 h_23 h_24 h_25 h_96 h_115 h_116 h_1362 h_1367 h_1476 h_1477 h_1478 h_1479 h_1480 h_1481 h_1482 h_1483 h_1484 h_1486 h_1487 h_1488 h_1490 h_1491 h_1492 h_1494 h_1495 h_1496 h_1498 h_1499 h_1501 h_1502 h_1504 h_26 h_1503; omega) | omega, (Int.le_trans (rg_eq hg_e1 h_1).2 (by decide))⟩ ?_
            refine q_iconst rfl ?_
            refine q_goto (t := 21) rfl (by decide) ?_
            refine v_zret rfl rfl (by decide) ?_
            refine bk_inl ?_
            refine v_if_eq_f (t := 136) rfl (by decide) (by decide) ?_
            refine q_aload_n rfl rfl ?_
            have h_1510 := wv_bd (b := F) (r := (nx F e1 a)) (l := (ln F e1 (nx F e1 a))) (fun j h1 h2 => ⟨(ln_in (e := e1) (a := (nx F e1 a)) h1 h2).1, (ln_in (e := e1) (a := (nx F e1 a)) h1 h2).2.1⟩)
            have h_1511 := wr8_3 (b := F) (r := (nx F e1 a)) (l := (ln F e1 (nx F e1 a))) (by omega) (fun j h1 h2 => ⟨(ln_in (e := e1) (a := (nx F e1 a)) h1 h2).1, (ln_in (e := e1) (a := (nx F e1 a)) h1 h2).2.1⟩) (by omega)
            refine v_cv rfl rfl rfl rfl (by decide) ⟨⟨rfl, rfl⟩, by decide, rfl⟩ (Nat.le_of_ble_eq_true rfl) (Nat.le_of_ble_eq_true rfl) (f_157 (e1 := e1) (a9 := (nx F e1 a)) (B := H) (r8 := (nx F e1 a)) (L8 := (ln F e1 (nx F e1 a))) (W8 := (wv F (nx F e1 a) (ln F e1 (nx F e1 a)))) hI_1506 ((hid kn_1509)) ((h_1508)) (fun j => ((hF_1507 43 j (fun h => absurd h.1 (nn rfl))).trans (hFc 43 j (fun q => q.elim (fun h => absurd h.1 (nn rfl)) (fun q => q.elim (fun h => absurd h.1 (nn rfl)) (fun q => q.elim (fun h => absurd h.1 (nn rfl)) (fun q => q.elim (fun h => absurd h.1 (nn rfl)) (fun q => q.elim (fun h => absurd h.1 (nn rfl)) (fun q => q.elim (fun h => absurd h.1 (nn rfl)) (fun q => q.elim (fun h => absurd h.1 (nn rfl)) (fun q => q.elim (fun h => absurd h (nn rfl)) (fun q => q.elim (fun h => absurd h (nn rfl)) (fun h => absurd h (nn rfl))))))))))))).trans (hH j)) ((nx_tr hU (by first | (clear h_1 h_2 h_3 h_4 h_5 h_6 h_7 h_8 h_9 h_10 h_11 h_12 h_13 h_14 h_15 h_16 h_17 h_18 h_19 h_20 h_21 h_23 h_25 h_115 h_116 h_1362 h_1367 h_1476 h_1477 h_1478 h_1479 h_1480 h_1481 h_1482 h_1483 h_1484 h_1486 h_1487 h_1488 h_1490 h_1491 h_1492 h_1494 h_1495 h_1496 h_1498 h_1499 h_1501 h_1502 h_1504; omega) | omega) (by first | (clear h_3 h_4 h_5 h_6 h_7 h_8 h_9 h_10 h_11 h_12 h_13 h_14 h_15 h_16 h_17 h_18 h_19 h_20 h_21 h_23 h_25 h_115 h_116 h_1362 h_1367 h_1476 h_1477 h_1478 h_1479 h_1480 h_1481 h_1482 h_1483 h_1484 h_1486 h_1487 h_1488 h_1490 h_1491 h_1492 h_1494 h_1495 h_1496 h_1498 h_1499 h_1501 h_1502 h_1504; omega) | omega)).trans ((nx_z (by omega)))) ((ln_tr hU (by first | (clear h_1 h_2 h_3 h_4 h_5 h_6 h_7 h_8 h_9 h_10 h_11 h_12 h_13 h_14 h_15 h_16 h_17 h_18 h_19 h_20 h_21 h_23 h_25 h_115 h_116 h_1362 h_1367 h_1476 h_1477 h_1478 h_1479 h_1480 h_1481 h_1482 h_1483 h_1484 h_1486 h_1487 h_1488 h_1490 h_1491 h_1492 h_1494 h_1495 h_1496 h_1498 h_1499 h_1501 h_1502 h_1504; omega) | omega) (by first | (clear h_3 h_4 h_5 h_6 h_7 h_8 h_9 h_10 h_11 h_12 h_13 h_14 h_15 h_16 h_17 h_18 h_19 h_20 h_21 h_23 h_25 h_115 h_116 h_1362 h_1367 h_1476 h_1477 h_1478 h_1479 h_1480 h_1481 h_1482 h_1483 h_1484 h_1486 h_1487 h_1488 h_1490 h_1491 h_1492 h_1494 h_1495 h_1496 h_1498 h_1499 h_1501 h_1502 h_1504; omega) | omega)).trans (rfl)) ((wv_tr hU (by first | (clear h_1 h_2 h_3 h_4 h_5 h_6 h_7 h_8 h_9 h_10 h_11 h_12 h_13 h_14 h_15 h_16 h_17 h_18 h_19 h_20 h_21 h_23 h_25 h_115 h_116 h_1362 h_1367 h_1476 h_1477 h_1478 h_1479 h_1480 h_1481 h_1482 h_1483 h_1484 h_1486 h_1487 h_1488 h_1490 h_1491 h_1492 h_1494 h_1495 h_1496 h_1498 h_1499 h_1501 h_1502 h_1504 h_1510 h_1511; omega) | omega) (by first | (clear h_3 h_4 h_5 h_6 h_7 h_8 h_9 h_10 h_11 h_12 h_13 h_14 h_15 h_16 h_17 h_18 h_19 h_20 h_21 h_23 h_25 h_115 h_116 h_1362 h_1367 h_1476 h_1477 h_1478 h_1479 h_1480 h_1481 h_1482 h_1483 h_1484 h_1486 h_1487 h_1488 h_1490 h_1491 h_1492 h_1494 h_1495 h_1496 h_1498 h_1499 h_1501 h_1502 h_1504 h_1510 h_1511; omega) | omega) (fun j h1 h2 => ⟨(ln_in (e := e1) (a := (nx F e1 a)) h1 h2).1, (ln_in (e := e1) (a := (nx F e1 a)) h1 h2).2.1⟩)).trans (rfl)) (fun c_1512 hI_1513 hF_1514 hz_1515 => ?_))
            refine bk_inl ?_
            refine q_istore_n rfl (by decide) ?_
            refine q_iload_n rfl rfl ?_
            refine q_call rfl rfl rfl rfl ?_
            refine q_iload_n rfl rfl ?_
            refine q_ldc_s rfl rfl rfl (by decide) ?_
            refine q_call rfl rfl rfl rfl (s_158_16 ?_)
            refine bk_inl ?_
            refine v_ic_eq_f (t := 36) rfl (by decide) ⟨by first | (clear h_1 h_2 h_3 h_4 h_5 h_6 h_7 h_8 h_9 h_10 h_11 h_12 h_13 h_14 h_15 h_16 h_17 h_18 h_19 h_20 h_21 h_23 h_24 h_25 h_96 h_115 h_116 h_1362 h_1367 h_1476 h_1477 h_1478 h_1479 h_1480 h_1481 h_1482 h_1483 h_1484 h_1486 h_1487 h_1488 h_1490 h_1491 h_1492 h_1494 h_1495 h_1496 h_1498 h_1499 h_1501 h_1502 h_1504 h_26 h_1503; omega) | omega, ⟨by first | (clear h_1 h_2 h_3 h_4 h_5 h_6 h_7 h_8 h_9 h_10 h_11 h_12 h_13 h_14 h_15 h_16 h_17 h_18 h_19 h_20 h_21 h_23 h_24 h_25 h_96 h_115 h_116 h_1362 h_1367 h_1476 h_1477 h_1478 h_1479 h_1480 h_1481 h_1482 h_1483 h_1484 h_1486 h_1487 h_1488 h_1490 h_1491 h_1492 h_1494 h_1495 h_1496 h_1498 h_1499 h_1501 h_1502 h_1504 h_26 h_1503; omega) | omega, by first | (clear h_1 h_2 h_3 h_4 h_5 h_6 h_7 h_8 h_9 h_10 h_11 h_12 h_13 h_14 h_15 h_16 h_17 h_18 h_19 h_20 h_21 h_23 h_24 h_25 h_96 h_115 h_116 h_1362 h_1367 h_1476 h_1477 h_1478 h_1479 h_1480 h_1481 h_1482 h_1483 h_1484 h_1486 h_1487 h_1488 h_1490 h_1491 h_1492 h_1494 h_1495 h_1496 h_1498 h_1499 h_1501 h_1502 h_1504 h_26 h_1503; omega) | omega⟩, by decide, by decide⟩ ?_
            refine q_iload_n rfl rfl ?_
            refine q_ldc_s rfl rfl rfl (by decide) ?_
            refine q_call rfl rfl rfl rfl (s_158_17 ?_)
            refine bk_inl ?_
            refine v_ic_eq_f (t := 36) rfl (by decide) ⟨by first | (clear h_1 h_2 h_3 h_4 h_5 h_6 h_7 h_8 h_9 h_10 h_11 h_12 h_13 h_14 h_15 h_16 h_17 h_18 h_19 h_20 h_21 h_23 h_24 h_25 h_96 h_115 h_116 h_1362 h_1367 h_1476 h_1477 h_1478 h_1479 h_1480 h_1481 h_1482 h_1483 h_1484 h_1486 h_1487 h_1488 h_1490 h_1491 h_1492 h_1494 h_1495 h_1496 h_1498 h_1499 h_1501 h_1502 h_1504 h_26 h_1503; omega) | omega, ⟨by first | (clear h_1 h_2 h_3 h_4 h_5 h_6 h_7 h_8 h_9 h_10 h_11 h_12 h_13 h_14 h_15 h_16 h_17 h_18 h_19 h_20 h_21 h_23 h_24 h_25 h_96 h_115 h_116 h_1362 h_1367 h_1476 h_1477 h_1478 h_1479 h_1480 h_1481 h_1482 h_1483 h_1484 h_1486 h_1487 h_1488 h_1490 h_1491 h_1492 h_1494 h_1495 h_1496 h_1498 h_1499 h_1501 h_1502 h_1504 h_26 h_1503; omega) | omega, by first | (clear h_1 h_2 h_3 h_4 h_5 h_6 h_7 h_8 h_9 h_10 h_11 h_12 h_13 h_14 h_15 h_16 h_17 h_18 h_19 h_20 h_21 h_23 h_24 h_25 h_96 h_115 h_116 h_1362 h_1367 h_1476 h_1477 h_1478 h_1479 h_1480 h_1481 h_1482 h_1483 h_1484 h_1486 h_1487 h_1488 h_1490 h_1491 h_1492 h_1494 h_1495 h_1496 h_1498 h_1499 h_1501 h_1502 h_1504 h_26 h_1503; omega) | omega⟩, by decide, by decide⟩ ?_
            refine q_iload_n rfl rfl ?_
            refine q_ldc_s rfl rfl rfl (by decide) ?_
            refine q_call rfl rfl rfl rfl (s_158_18 ?_)
            refine bk_inl ?_
            refine v_ic_eq_f (t := 36) rfl (by decide) ⟨by first | (clear h_1 h_2 h_3 h_4 h_5 h_6 h_7 h_8 h_9 h_10 h_11 h_12 h_13 h_14 h_15 h_16 h_17 h_18 h_19 h_20 h_21 h_23 h_24 h_25 h_96 h_115 h_116 h_1362 h_1367 h_1476 h_1477 h_1478 h_1479 h_1480 h_1481 h_1482 h_1483 h_1484 h_1486 h_1487 h_1488 h_1490 h_1491 h_1492 h_1494 h_1495 h_1496 h_1498 h_1499 h_1501 h_1502 h_1504 h_26 h_1503; omega) | omega, ⟨by first | (clear h_1 h_2 h_3 h_4 h_5 h_6 h_7 h_8 h_9 h_10 h_11 h_12 h_13 h_14 h_15 h_16 h_17 h_18 h_19 h_20 h_21 h_23 h_24 h_25 h_96 h_115 h_116 h_1362 h_1367 h_1476 h_1477 h_1478 h_1479 h_1480 h_1481 h_1482 h_1483 h_1484 h_1486 h_1487 h_1488 h_1490 h_1491 h_1492 h_1494 h_1495 h_1496 h_1498 h_1499 h_1501 h_1502 h_1504 h_26 h_1503; omega) | omega, by first | (clear h_1 h_2 h_3 h_4 h_5 h_6 h_7 h_8 h_9 h_10 h_11 h_12 h_13 h_14 h_15 h_16 h_17 h_18 h_19 h_20 h_21 h_23 h_24 h_25 h_96 h_115 h_116 h_1362 h_1367 h_1476 h_1477 h_1478 h_1479 h_1480 h_1481 h_1482 h_1483 h_1484 h_1486 h_1487 h_1488 h_1490 h_1491 h_1492 h_1494 h_1495 h_1496 h_1498 h_1499 h_1501 h_1502 h_1504 h_26 h_1503; omega) | omega⟩, by decide, by decide⟩ ?_
            refine q_iload_n rfl rfl ?_
            refine q_ldc_s rfl rfl rfl (by decide) ?_
            refine q_call rfl rfl rfl rfl (s_158_19 ?_)
            refine bk_inl ?_
            refine v_ic_ne_f (t := 40) rfl (by decide) (by first | (clear h_1 h_2 h_3 h_4 h_5 h_6 h_7 h_8 h_9 h_10 h_11 h_12 h_13 h_14 h_15 h_16 h_17 h_18 h_19 h_20 h_21 h_23 h_24 h_25 h_96 h_115 h_116 h_1362 h_1367 h_1476 h_1477 h_1478 h_1479 h_1480 h_1481 h_1482 h_1483 h_1484 h_1486 h_1487 h_1488 h_1490 h_1491 h_1492 h_1494 h_1495 h_1496 h_1498 h_1499 h_1501 h_1502 h_1504 h_26 h_1503; omega) | omega) ?_
            refine q_iconst rfl ?_
            refine q_goto (t := 41) rfl (by decide) ?_
            refine v_zret rfl rfl (by decide) ?_
            refine bk_inl ?_
            refine v_if_ne_t (t := 82) rfl (by decide) (by decide) ?_
            refine q_iload_n rfl rfl ?_
            refine v_bip rfl (by decide) ?_
            refine v_ic_eq_f (t := 96) rfl (by decide) ⟨by first | (clear h_1 h_2 h_3 h_4 h_5 h_6 h_7 h_8 h_9 h_10 h_11 h_12 h_13 h_14 h_15 h_16 h_17 h_18 h_19 h_20 h_21 h_23 h_24 h_25 h_96 h_115 h_116 h_1362 h_1367 h_1476 h_1477 h_1478 h_1479 h_1480 h_1481 h_1482 h_1483 h_1484 h_1486 h_1487 h_1488 h_1490 h_1491 h_1492 h_1494 h_1495 h_1496 h_1498 h_1499 h_1501 h_1502 h_1504 h_1510 h_1511 h_26 h_1503; omega) | omega, ⟨(Int.le_trans (by decide) hv.1), (Int.le_trans hv.2 (by decide))⟩, by decide, by decide⟩ ?_
            refine q_aload_n rfl rfl ?_
            refine q_iload_n rfl rfl ?_
            refine v_cv rfl rfl rfl rfl (by decide) ⟨⟨rfl, rfl⟩, by decide, rfl⟩ (Nat.le_of_ble_eq_true rfl) (Nat.le_of_ble_eq_true rfl) ?_
            refine q_iload_n rfl rfl ?_
            refine q_ldc_s rfl rfl rfl (by decide) ?_
            refine q_call rfl rfl rfl rfl (s_158_16 ?_)
            refine bk_inl ?_
            refine v_ic_ne_t (t := 26) rfl (by decide) ⟨by first | (clear h_1 h_2 h_3 h_4 h_5 h_6 h_7 h_8 h_9 h_10 h_11 h_12 h_13 h_14 h_15 h_16 h_17 h_18 h_19 h_20 h_21 h_23 h_24 h_25 h_96 h_115 h_116 h_1362 h_1367 h_1476 h_1477 h_1478 h_1479 h_1480 h_1481 h_1482 h_1483 h_1484 h_1486 h_1487 h_1488 h_1490 h_1491 h_1492 h_1494 h_1495 h_1496 h_1498 h_1499 h_1501 h_1502 h_1504 h_26 h_1503; omega) | omega, ⟨by first | (clear h_1 h_2 h_3 h_4 h_5 h_6 h_7 h_8 h_9 h_10 h_11 h_12 h_13 h_14 h_15 h_16 h_17 h_18 h_19 h_20 h_21 h_23 h_24 h_25 h_96 h_115 h_116 h_1362 h_1367 h_1476 h_1477 h_1478 h_1479 h_1480 h_1481 h_1482 h_1483 h_1484 h_1486 h_1487 h_1488 h_1490 h_1491 h_1492 h_1494 h_1495 h_1496 h_1498 h_1499 h_1501 h_1502 h_1504 h_26 h_1503; omega) | omega, by first | (clear h_1 h_2 h_3 h_4 h_5 h_6 h_7 h_8 h_9 h_10 h_11 h_12 h_13 h_14 h_15 h_16 h_17 h_18 h_19 h_20 h_21 h_23 h_24 h_25 h_96 h_115 h_116 h_1362 h_1367 h_1476 h_1477 h_1478 h_1479 h_1480 h_1481 h_1482 h_1483 h_1484 h_1486 h_1487 h_1488 h_1490 h_1491 h_1492 h_1494 h_1495 h_1496 h_1498 h_1499 h_1501 h_1502 h_1504 h_26 h_1503; omega) | omega⟩, by decide, by decide⟩ ?_
            refine q_iload_n rfl rfl ?_
            refine q_ldc_s rfl rfl rfl (by decide) ?_
            refine q_call rfl rfl rfl rfl (s_158_17 ?_)
            refine bk_inl ?_
            refine v_ic_ne_t (t := 51) rfl (by decide) ⟨by first | (clear h_1 h_2 h_3 h_4 h_5 h_6 h_7 h_8 h_9 h_10 h_11 h_12 h_13 h_14 h_15 h_16 h_17 h_18 h_19 h_20 h_21 h_23 h_24 h_25 h_96 h_115 h_116 h_1362 h_1367 h_1476 h_1477 h_1478 h_1479 h_1480 h_1481 h_1482 h_1483 h_1484 h_1486 h_1487 h_1488 h_1490 h_1491 h_1492 h_1494 h_1495 h_1496 h_1498 h_1499 h_1501 h_1502 h_1504 h_26 h_1503; omega) | omega, ⟨by first | (clear h_1 h_2 h_3 h_4 h_5 h_6 h_7 h_8 h_9 h_10 h_11 h_12 h_13 h_14 h_15 h_16 h_17 h_18 h_19 h_20 h_21 h_23 h_24 h_25 h_96 h_115 h_116 h_1362 h_1367 h_1476 h_1477 h_1478 h_1479 h_1480 h_1481 h_1482 h_1483 h_1484 h_1486 h_1487 h_1488 h_1490 h_1491 h_1492 h_1494 h_1495 h_1496 h_1498 h_1499 h_1501 h_1502 h_1504 h_26 h_1503; omega) | omega, by first | (clear h_1 h_2 h_3 h_4 h_5 h_6 h_7 h_8 h_9 h_10 h_11 h_12 h_13 h_14 h_15 h_16 h_17 h_18 h_19 h_20 h_21 h_23 h_24 h_25 h_96 h_115 h_116 h_1362 h_1367 h_1476 h_1477 h_1478 h_1479 h_1480 h_1481 h_1482 h_1483 h_1484 h_1486 h_1487 h_1488 h_1490 h_1491 h_1492 h_1494 h_1495 h_1496 h_1498 h_1499 h_1501 h_1502 h_1504 h_26 h_1503; omega) | omega⟩, by decide, by decide⟩ ?_
            refine q_iload_n rfl rfl ?_
            refine q_ldc_s rfl rfl rfl (by decide) ?_
            refine q_call rfl rfl rfl rfl (s_158_18 ?_)
            refine bk_inl ?_
            refine v_ic_ne_t (t := 72) rfl (by decide) ⟨by first | (clear h_1 h_2 h_3 h_4 h_5 h_6 h_7 h_8 h_9 h_10 h_11 h_12 h_13 h_14 h_15 h_16 h_17 h_18 h_19 h_20 h_21 h_23 h_24 h_25 h_96 h_115 h_116 h_1362 h_1367 h_1476 h_1477 h_1478 h_1479 h_1480 h_1481 h_1482 h_1483 h_1484 h_1486 h_1487 h_1488 h_1490 h_1491 h_1492 h_1494 h_1495 h_1496 h_1498 h_1499 h_1501 h_1502 h_1504 h_26 h_1503; omega) | omega, ⟨by first | (clear h_1 h_2 h_3 h_4 h_5 h_6 h_7 h_8 h_9 h_10 h_11 h_12 h_13 h_14 h_15 h_16 h_17 h_18 h_19 h_20 h_21 h_23 h_24 h_25 h_96 h_115 h_116 h_1362 h_1367 h_1476 h_1477 h_1478 h_1479 h_1480 h_1481 h_1482 h_1483 h_1484 h_1486 h_1487 h_1488 h_1490 h_1491 h_1492 h_1494 h_1495 h_1496 h_1498 h_1499 h_1501 h_1502 h_1504 h_26 h_1503; omega) | omega, by first | (clear h_1 h_2 h_3 h_4 h_5 h_6 h_7 h_8 h_9 h_10 h_11 h_12 h_13 h_14 h_15 h_16 h_17 h_18 h_19 h_20 h_21 h_23 h_24 h_25 h_96 h_115 h_116 h_1362 h_1367 h_1476 h_1477 h_1478 h_1479 h_1480 h_1481 h_1482 h_1483 h_1484 h_1486 h_1487 h_1488 h_1490 h_1491 h_1492 h_1494 h_1495 h_1496 h_1498 h_1499 h_1501 h_1502 h_1504 h_26 h_1503; omega) | omega⟩, by decide, by decide⟩ ?_
            refine q_iconst rfl ?_
            refine v_zret rfl rfl (by decide) ?_
            refine bk_inl ?_
            refine v_if_eq_t (t := 105) rfl (by decide) (by decide) ?_
            refine q_aload_n rfl rfl ?_
            refine v_cv rfl rfl rfl rfl (by decide) ⟨⟨rfl, rfl⟩, by decide, rfl⟩ (Nat.le_of_ble_eq_true rfl) (Nat.le_of_ble_eq_true rfl) ?_
            refine q_aload_n rfl rfl ?_
            have kn_1516 : Hid (c_1505 41 5 = (-1)) := (hF_1507 41 5 (fun h => absurd h.2 (ni rfl))).trans (hc_1)
            have kn_1517 : Hid (c_1512 41 5 = (-1)) := (hF_1514 41 5 (fun h => absurd h.2 (ni rfl))).trans (hid kn_1516)
            refine v_gi (z := 5) (v := (-1)) rfl rfl rfl (by decide) rfl rfl (hid kn_1517) ?_
            refine q_iconst rfl ?_
            refine v_ic_ne_f (t := 12) rfl (by decide) (by decide) ?_
            refine q_iconst rfl ?_
            refine q_goto (t := 13) rfl (by decide) ?_
            refine v_zret rfl rfl (by decide) ?_
            refine bk_inl ?_
            refine v_if_ne_t (t := 115) rfl (by decide) (by decide) ?_
            refine q_aload_n rfl rfl ?_
            have kn_1518 : Hid (c_1512 41 3 = e1) := (hF_1514 41 3 (fun h => absurd h.2 (ni rfl))).trans (hid kn_1509)
            refine v_cv rfl rfl rfl rfl (by decide) ⟨⟨rfl, rfl⟩, by decide, rfl⟩ (Nat.le_of_ble_eq_true rfl) (Nat.le_of_ble_eq_true rfl) (f_159 (e1 := e1) (a9 := (nx F e1 a)) (B := H) (L8 := (ln F e1 (nx F e1 a))) hI_1513 ((hid kn_1518)) ((hz_1515)) (fun j => ((hF_1514 43 j (fun h => absurd h.1 (nn rfl))).trans ((hF_1507 43 j (fun h => absurd h.1 (nn rfl))).trans (hFc 43 j (fun q => q.elim (fun h => absurd h.1 (nn rfl)) (fun q => q.elim (fun h => absurd h.1 (nn rfl)) (fun q => q.elim (fun h => absurd h.1 (nn rfl)) (fun q => q.elim (fun h => absurd h.1 (nn rfl)) (fun q => q.elim (fun h => absurd h.1 (nn rfl)) (fun q => q.elim (fun h => absurd h.1 (nn rfl)) (fun q => q.elim (fun h => absurd h.1 (nn rfl)) (fun q => q.elim (fun h => absurd h (nn rfl)) (fun q => q.elim (fun h => absurd h (nn rfl)) (fun h => absurd h (nn rfl)))))))))))))).trans (hH j)) ((ln_tr hU (by first | (clear h_1 h_2 h_3 h_4 h_5 h_6 h_7 h_8 h_9 h_10 h_11 h_12 h_13 h_14 h_15 h_16 h_17 h_18 h_19 h_20 h_21 h_23 h_25 h_115 h_116 h_1362 h_1367 h_1476 h_1477 h_1478 h_1479 h_1480 h_1481 h_1482 h_1483 h_1484 h_1486 h_1487 h_1488 h_1490 h_1491 h_1492 h_1494 h_1495 h_1496 h_1498 h_1499 h_1501 h_1502 h_1504 h_1510 h_1511; omega) | omega) (by first | (clear h_3 h_4 h_5 h_6 h_7 h_8 h_9 h_10 h_11 h_12 h_13 h_14 h_15 h_16 h_17 h_18 h_19 h_20 h_21 h_23 h_25 h_115 h_116 h_1362 h_1367 h_1476 h_1477 h_1478 h_1479 h_1480 h_1481 h_1482 h_1483 h_1484 h_1486 h_1487 h_1488 h_1490 h_1491 h_1492 h_1494 h_1495 h_1496 h_1498 h_1499 h_1501 h_1502 h_1504 h_1510 h_1511; omega) | omega)).trans (rfl)) (fun c_1519 hI_1520 hF_1521 hz_1522 => ?_))
            refine bk_inl ?_
            refine q_aload_n rfl rfl ?_
            refine q_iload_n rfl rfl ?_
            have hw_1523 : (wv F (nx F e1 a) (ln F e1 (nx F e1 a))) = 153204 := by omega
            rw [hw_1523]
            have kn_1524 : Hid (c_112 1 1 = e1) := (hF_114 1 1 (fun q => q.elim (fun h => absurd h.2 (ni rfl)) (fun q => q.elim (fun h => absurd h.2 (ni rfl)) (fun h => absurd h.2 (ni rfl))))).trans (hid kn_91)
            have kn_1525 : Hid (c_1519 41 3 = e1) := (hF_1521 41 3 (fun h => absurd h.2 (ni rfl))).trans (hid kn_1518)
            have kn_1526 : Hid (c_1505 41 16 = jr) := (hF_1507 41 16 (fun h => absurd h.2 (ni rfl))).trans (hr_jr)
            have kn_1527 : Hid (c_1512 41 16 = jr) := (hF_1514 41 16 (fun h => absurd h.2 (ni rfl))).trans (hid kn_1526)
            have kn_1528 : Hid (c_1519 41 16 = jr) := (hF_1521 41 16 (fun h => absurd h.2 (ni rfl))).trans (hid kn_1527)
            have kn_1529 : Hid (c_1505 41 17 = st) := (hF_1507 41 17 (fun h => absurd h.2 (ni rfl))).trans (hr_st)
            have kn_1530 : Hid (c_1512 41 17 = st) := (hF_1514 41 17 (fun h => absurd h.2 (ni rfl))).trans (hid kn_1529)
            have kn_1531 : Hid (c_1519 41 17 = st) := (hF_1521 41 17 (fun h => absurd h.2 (ni rfl))).trans (hid kn_1530)
            have kn_1532 : Hid (c_1505 41 18 = si) := (hF_1507 41 18 (fun h => absurd h.2 (ni rfl))).trans (hr_si)
            have kn_1533 : Hid (c_1512 41 18 = si) := (hF_1514 41 18 (fun h => absurd h.2 (ni rfl))).trans (hid kn_1532)
            have kn_1534 : Hid (c_1519 41 18 = si) := (hF_1521 41 18 (fun h => absurd h.2 (ni rfl))).trans (hid kn_1533)
            have kn_1535 : Hid (c_27 A 3 = du) := (hF_29 A 3 (fun h => absurd h.1 (np0 hA rfl))).trans (hg_du)
            have kn_1536 : Hid (c_87 A 3 = du) := (hF_89 A 3 (fun h => absurd h.1 (np0 hA rfl))).trans (hid kn_1535)
            have kn_1537 : Hid (c_112 A 3 = du) := (hF_114 A 3 (fun q => q.elim (fun h => absurd h.1 (np0 hA rfl)) (fun q => q.elim (fun h => absurd h.1 (np0 hA rfl)) (fun h => absurd h.1 (np0 hA rfl))))).trans (hid kn_1536)
            have kn_1538 : Hid (c_1505 41 19 = du) := (hF_1507 41 19 (fun h => absurd h.2 (ni rfl))).trans (hr_du)
            have kn_1539 : Hid (c_1512 41 19 = du) := (hF_1514 41 19 (fun h => absurd h.2 (ni rfl))).trans (hid kn_1538)
            have kn_1540 : Hid (c_1519 41 19 = du) := (hF_1521 41 19 (fun h => absurd h.2 (ni rfl))).trans (hid kn_1539)
            have h_1541 : c_112 1 4 = 0 := (hz_118)
            have h_1542 : c_112 1 2 = (ln F e1 (nx F e1 a)) := (hz_117)
            have h_1543 : c_112 1 5 = (-1) := (hz_119)
            have kn_1544 : Hid (c_1519 41 5 = (-1)) := (hF_1521 41 5 (fun h => absurd h.2 (ni rfl))).trans (hid kn_1517)
            have h_1545 : c_1519 41 5 = (-1) := (hid kn_1544)
            have h_1546 : c_1519 41 4 = (ln F e1 (nx F e1 a)) := (hz_1522)
            have h_1547 := ir_41_6 hI2
            have kn_1548 : Hid (c_1505 41 6 = c2 41 6) := hF_1507 41 6 (fun h => absurd h.2 (ni rfl))
            have kn_1549 : Hid (c_1512 41 6 = c2 41 6) := (hF_1514 41 6 (fun h => absurd h.2 (ni rfl))).trans (hid kn_1548)
            have kn_1550 : Hid (c_1519 41 6 = c2 41 6) := (hF_1521 41 6 (fun h => absurd h.2 (ni rfl))).trans (hid kn_1549)
            have h_1551 : c_1519 41 6 = c2 41 6 := (hid kn_1550)
            have hA_1552 : Ae (4 * jr) (c_112 (A + 1)) (c_1519 44) := ae_fr hrl0 (fun j => (hF_114 (A + 1) j (fun q => q.elim (fun h => absurd h.1 (np hA rfl rfl)) (fun q => q.elim (fun h => absurd h.1 (np hA rfl rfl)) (fun h => absurd h.1 (np hA rfl rfl))))).trans ((hF_89 (A + 1) j (fun h => absurd h.1 (np hA rfl rfl))).trans (hF_29 (A + 1) j (fun h => absurd h.1 (np hA rfl rfl))))) (fun j => (hF_1521 44 j (fun h => absurd h.1 (nn rfl))).trans ((hF_1514 44 j (fun h => absurd h.1 (nn rfl))).trans (hF_1507 44 j (fun h => absurd h.1 (nn rfl)))))
            have hA_1553 : Ae (3 * st) (c_112 (A + 2)) (c_1519 45) := ae_fr hrl1 (fun j => (hF_114 (A + 2) j (fun q => q.elim (fun h => absurd h.1 (np hA rfl rfl)) (fun q => q.elim (fun h => absurd h.1 (np hA rfl rfl)) (fun h => absurd h.1 (np hA rfl rfl))))).trans ((hF_89 (A + 2) j (fun h => absurd h.1 (np hA rfl rfl))).trans (hF_29 (A + 2) j (fun h => absurd h.1 (np hA rfl rfl))))) (fun j => (hF_1521 45 j (fun h => absurd h.1 (nn rfl))).trans ((hF_1514 45 j (fun h => absurd h.1 (nn rfl))).trans (hF_1507 45 j (fun h => absurd h.1 (nn rfl)))))
            have hA_1554 : Ae si (c_112 (A + 3)) (c_1519 46) := ae_fr hrl2 (fun j => (hF_114 (A + 3) j (fun q => q.elim (fun h => absurd h.1 (np hA rfl rfl)) (fun q => q.elim (fun h => absurd h.1 (np hA rfl rfl)) (fun h => absurd h.1 (np hA rfl rfl))))).trans ((hF_89 (A + 3) j (fun h => absurd h.1 (np hA rfl rfl))).trans (hF_29 (A + 3) j (fun h => absurd h.1 (np hA rfl rfl))))) (fun j => (hF_1521 46 j (fun h => absurd h.1 (nn rfl))).trans ((hF_1514 46 j (fun h => absurd h.1 (nn rfl))).trans (hF_1507 46 j (fun h => absurd h.1 (nn rfl)))))
            refine v_cv rfl rfl rfl rfl (by decide) ⟨⟨rfl, rfl⟩, by decide, rfl⟩ (Nat.le_of_ble_eq_true rfl) (Nat.le_of_ble_eq_true rfl) (L_33a_3 (m := c_112) (e1 := e1) (jr := jr) (st := st) (si := si) (du := du) (F := F) (H := H) hI_1520 hI_113 hI_1359 hA ((hid kn_1524)) ((hid kn_1525)) ((hid kn_1348)) ((hid kn_1528)) ((hid kn_1352)) ((hid kn_1531)) ((hid kn_1356)) ((hid kn_1534)) ((hid kn_1537)) ((hid kn_1540)) (fun j => ((hF_114 2 j (fun q => q.elim (fun h => absurd h.1 (nn rfl)) (fun q => q.elim (fun h => absurd h.1 (nn rfl)) (fun h => absurd h.1 (nn rfl))))).trans ((hF_89 2 j (fun h => absurd h.1 (nn rfl))).trans ((hF_29 2 j (fun h => absurd h.1 (nn rfl))).trans (hFm 2 j (fun q => q.elim (fun h => absurd h.1 (nn rfl)) (fun q => q.elim (fun h => absurd h.1 (nn rfl)) (fun q => q.elim (fun h => absurd h.1 (nn rfl)) (fun q => q.elim (fun h => absurd h.1 (pn0 hA rfl)) (fun q => q.elim (fun h => absurd h.1 (pn0 hA rfl)) (fun q => q.elim (fun h => absurd h.1 (pn0 hA rfl)) (fun q => q.elim (fun h => absurd h.1 (pn0 hA rfl)) (fun q => q.elim (fun h => absurd h (pn hA rfl rfl)) (fun q => q.elim (fun h => absurd h (pn hA rfl rfl)) (fun q => q.elim (fun h => absurd h (pn hA rfl rfl)) (fun q => q.elim (fun h => absurd h.1 (pn0 hA rfl)) (fun q => q.elim (fun h => absurd h.1 (pn0 hA rfl)) (fun q => q.elim (fun h => absurd h (pn hA rfl rfl)) (fun h => absurd h.1 (pn hA rfl rfl))))))))))))))))))).trans (hF j)) (fun j => ((hF_1521 43 j (fun h => absurd h.1 (nn rfl))).trans ((hF_1514 43 j (fun h => absurd h.1 (nn rfl))).trans ((hF_1507 43 j (fun h => absurd h.1 (nn rfl))).trans (hFc 43 j (fun q => q.elim (fun h => absurd h.1 (nn rfl)) (fun q => q.elim (fun h => absurd h.1 (nn rfl)) (fun q => q.elim (fun h => absurd h.1 (nn rfl)) (fun q => q.elim (fun h => absurd h.1 (nn rfl)) (fun q => q.elim (fun h => absurd h.1 (nn rfl)) (fun q => q.elim (fun h => absurd h.1 (nn rfl)) (fun q => q.elim (fun h => absurd h.1 (nn rfl)) (fun q => q.elim (fun h => absurd h (nn rfl)) (fun q => q.elim (fun h => absurd h (nn rfl)) (fun h => absurd h (nn rfl))))))))))))))).trans (hH j)) hU (rt_i1 ⟨by first | (clear h_1 h_2 h_3 h_4 h_5 h_6 h_7 h_8 h_9 h_10 h_11 h_12 h_13 h_14 h_15 h_16 h_17 h_18 h_19 h_20 h_21 h_23 h_24 h_25 h_96 h_115 h_116 h_1362 h_1367 h_1476 h_1477 h_1478 h_1479 h_1480 h_1481 h_1482 h_1483 h_1484 h_1486 h_1487 h_1488 h_1490 h_1491 h_1492 h_1494 h_1495 h_1496 h_1498 h_1499 h_1501 h_1502 h_1504 h_1510 h_1511 h_1547 h_26 h_1503; omega) | omega, by first | (clear h_1 h_2 h_3 h_4 h_5 h_6 h_7 h_8 h_9 h_10 h_11 h_12 h_13 h_14 h_15 h_16 h_17 h_18 h_19 h_20 h_21 h_23 h_24 h_25 h_96 h_115 h_116 h_1362 h_1367 h_1476 h_1477 h_1478 h_1479 h_1480 h_1481 h_1482 h_1483 h_1484 h_1486 h_1487 h_1488 h_1490 h_1491 h_1492 h_1494 h_1495 h_1496 h_1498 h_1499 h_1501 h_1502 h_1504 h_1510 h_1511 h_1547 h_26 h_1503; omega) | omega, by first | (clear h_1 h_2 h_3 h_4 h_5 h_6 h_7 h_8 h_9 h_10 h_11 h_12 h_13 h_14 h_15 h_16 h_17 h_18 h_19 h_20 h_21 h_23 h_24 h_25 h_96 h_115 h_116 h_1362 h_1367 h_1476 h_1477 h_1478 h_1479 h_1480 h_1481 h_1482 h_1483 h_1484 h_1486 h_1487 h_1488 h_1490 h_1491 h_1492 h_1494 h_1495 h_1496 h_1498 h_1499 h_1501 h_1502 h_1504 h_1510 h_1511 h_1547 h_26 h_1503; omega) | omega, by first | (clear h_1 h_2 h_3 h_4 h_5 h_6 h_7 h_8 h_9 h_10 h_11 h_12 h_13 h_14 h_15 h_16 h_17 h_18 h_19 h_20 h_21 h_23 h_24 h_25 h_96 h_115 h_116 h_1362 h_1367 h_1476 h_1477 h_1478 h_1479 h_1480 h_1481 h_1482 h_1483 h_1484 h_1486 h_1487 h_1488 h_1490 h_1491 h_1492 h_1494 h_1495 h_1496 h_1498 h_1499 h_1501 h_1502 h_1504 h_1510 h_1511 h_1547 h_26 h_1503; omega) | omega⟩) (ae_le hA_1552 (by omega)) (ae_le hA_1553 (by omega)) (ae_le hA_1554 (by omega)) hG_1361 (fun c_1555 hI_1556 hF_1557 hR_1559 h_1560 h_1561 h_1562 h_1563 hA_1564 hA_1565 hA_1566 => ?_))
            refine bk_inl ?_
            have h_1567 := ir_41_16 hI_1556
            have h_1568 := ir_41_17 hI_1556
            have h_1569 := ir_41_18 hI_1556
            have h_1570 := ir_41_19 hI_1556
            refine q_aload_n rfl rfl ?_
            refine v_bip rfl (by decide) ?_
            have kn_1571 : Hid (c_1358 1 1 = e1) := (hF_1360 1 1 (fun q => q.elim (fun h => absurd h.2 (ni rfl)) (fun q => q.elim (fun h => absurd h.2 (ni rfl)) (fun q => q.elim (fun h => absurd h.2 (ni rfl)) (fun q => q.elim (fun h => absurd h.1 (pn0 hA rfl)) (fun q => q.elim (fun h => absurd h.1 (pn0 hA rfl)) (fun q => q.elim (fun h => absurd h.1 (pn0 hA rfl)) (fun q => q.elim (fun h => absurd h.1 (pn0 hA rfl)) (fun q => q.elim (fun h => absurd h (pn hA rfl rfl)) (fun q => q.elim (fun h => absurd h (pn hA rfl rfl)) (fun h => absurd h (pn hA rfl rfl)))))))))))).trans (hid kn_1524)
            have kn_1572 : Hid (c_1555 41 3 = e1) := (hF_1557 41 3 (fun q => q.elim (fun h => absurd h.2 (ni rfl)) (fun q => q.elim (fun h => absurd h.2 (ni rfl)) (fun q => q.elim (fun h => absurd h.2 (ni rfl)) (fun q => q.elim (fun h => absurd h.2 (ni rfl)) (fun q => q.elim (fun h => absurd h.2 (ni rfl)) (fun q => q.elim (fun h => absurd h.2 (ni rfl)) (fun q => q.elim (fun h => absurd h.2 (ni rfl)) (fun q => q.elim (fun h => absurd h (nn rfl)) (fun q => q.elim (fun h => absurd h (nn rfl)) (fun h => absurd h (nn rfl)))))))))))).trans (hid kn_1525)
            have h_1573 := ir_1_2 hI_1359
            refine v_cv rfl rfl rfl rfl (by decide) ⟨⟨rfl, rfl⟩, by decide, rfl⟩ (Nat.le_of_ble_eq_true rfl) (Nat.le_of_ble_eq_true rfl) (L_11_9 (m := c_1358) (e1 := e1) (a9 := c_1358 1 2) (f0 := c_1358 1 4) (F := F) (H := H) hI_1556 hI_1359 hI_1364 ((hid kn_1571)) ((hid kn_1572)) (rfl) (rfl) (fun j => ((hF_1360 2 j (fun q => q.elim (fun h => absurd h.1 (nn rfl)) (fun q => q.elim (fun h => absurd h.1 (nn rfl)) (fun q => q.elim (fun h => absurd h.1 (nn rfl)) (fun q => q.elim (fun h => absurd h.1 (pn0 hA rfl)) (fun q => q.elim (fun h => absurd h.1 (pn0 hA rfl)) (fun q => q.elim (fun h => absurd h.1 (pn0 hA rfl)) (fun q => q.elim (fun h => absurd h.1 (pn0 hA rfl)) (fun q => q.elim (fun h => absurd h (pn hA rfl rfl)) (fun q => q.elim (fun h => absurd h (pn hA rfl rfl)) (fun h => absurd h (pn hA rfl rfl)))))))))))).trans ((hF_114 2 j (fun q => q.elim (fun h => absurd h.1 (nn rfl)) (fun q => q.elim (fun h => absurd h.1 (nn rfl)) (fun h => absurd h.1 (nn rfl))))).trans ((hF_89 2 j (fun h => absurd h.1 (nn rfl))).trans ((hF_29 2 j (fun h => absurd h.1 (nn rfl))).trans (hFm 2 j (fun q => q.elim (fun h => absurd h.1 (nn rfl)) (fun q => q.elim (fun h => absurd h.1 (nn rfl)) (fun q => q.elim (fun h => absurd h.1 (nn rfl)) (fun q => q.elim (fun h => absurd h.1 (pn0 hA rfl)) (fun q => q.elim (fun h => absurd h.1 (pn0 hA rfl)) (fun q => q.elim (fun h => absurd h.1 (pn0 hA rfl)) (fun q => q.elim (fun h => absurd h.1 (pn0 hA rfl)) (fun q => q.elim (fun h => absurd h (pn hA rfl rfl)) (fun q => q.elim (fun h => absurd h (pn hA rfl rfl)) (fun q => q.elim (fun h => absurd h (pn hA rfl rfl)) (fun q => q.elim (fun h => absurd h.1 (pn0 hA rfl)) (fun q => q.elim (fun h => absurd h.1 (pn0 hA rfl)) (fun q => q.elim (fun h => absurd h (pn hA rfl rfl)) (fun h => absurd h.1 (pn hA rfl rfl)))))))))))))))))))).trans (hF j)) (fun j => ((hF_1557 43 j (fun q => q.elim (fun h => absurd h.1 (nn rfl)) (fun q => q.elim (fun h => absurd h.1 (nn rfl)) (fun q => q.elim (fun h => absurd h.1 (nn rfl)) (fun q => q.elim (fun h => absurd h.1 (nn rfl)) (fun q => q.elim (fun h => absurd h.1 (nn rfl)) (fun q => q.elim (fun h => absurd h.1 (nn rfl)) (fun q => q.elim (fun h => absurd h.1 (nn rfl)) (fun q => q.elim (fun h => absurd h (nn rfl)) (fun q => q.elim (fun h => absurd h (nn rfl)) (fun h => absurd h (nn rfl)))))))))))).trans ((hF_1521 43 j (fun h => absurd h.1 (nn rfl))).trans ((hF_1514 43 j (fun h => absurd h.1 (nn rfl))).trans ((hF_1507 43 j (fun h => absurd h.1 (nn rfl))).trans (hFc 43 j (fun q => q.elim (fun h => absurd h.1 (nn rfl)) (fun q => q.elim (fun h => absurd h.1 (nn rfl)) (fun q => q.elim (fun h => absurd h.1 (nn rfl)) (fun q => q.elim (fun h => absurd h.1 (nn rfl)) (fun q => q.elim (fun h => absurd h.1 (nn rfl)) (fun q => q.elim (fun h => absurd h.1 (nn rfl)) (fun q => q.elim (fun h => absurd h.1 (nn rfl)) (fun q => q.elim (fun h => absurd h (nn rfl)) (fun q => q.elim (fun h => absurd h (nn rfl)) (fun h => absurd h (nn rfl)))))))))))))))).trans (hH j)) hU hR_1559 hG_1366 (fun c_1574 hI_1575 hF_1576 hR_1578 h_1579 h_1580 => ?_))
            refine bk_inl ?_
            refine v_iinc (v := v + 1) rfl rfl (by decide) rfl ?_
            refine q_goto (t := 44) rfl (by decide) ?_
            refine q_aload_n rfl rfl ?_
            refine v_cv rfl rfl rfl rfl (by decide) ⟨⟨rfl, rfl⟩, by decide, rfl⟩ (Nat.le_of_ble_eq_true rfl) (Nat.le_of_ble_eq_true rfl) ?_
            refine q_aload_n rfl rfl ?_
            have h_1581 := ir_41_5 hI_1575
            have h_1582 := ir_41_4 hI_1575
            have h_1583 := ir_41_6 hI_1575
            have h_1584 := rt_bad hR_1578 (by omega)
            have hrb_hR_1578 := rt_bad hR_1578 (by omega)
            refine v_gi (z := 5) (v := c_1363 1 5) rfl rfl rfl (by decide) rfl rfl hrb_hR_1578.2.1 ?_
            refine q_iconst rfl ?_
            refine v_ic_ne_t (t := 12) rfl (by decide) ⟨by first | (clear h_1 h_2 h_3 h_4 h_5 h_6 h_7 h_8 h_9 h_10 h_11 h_12 h_13 h_14 h_15 h_16 h_17 h_18 h_19 h_20 h_21 h_23 h_24 h_25 h_96 h_115 h_116 h_1362 h_1367 h_1476 h_1477 h_1478 h_1479 h_1480 h_1482 h_1484 h_1486 h_1487 h_1488 h_1490 h_1491 h_1492 h_1494 h_1495 h_1496 h_1498 h_1499 h_1501 h_1502 h_1504 h_1510 h_1511 h_1547 h_1567 h_1560 h_1568 h_1561 h_1569 h_1562 h_1570 h_1563 h_1573 h_1581 h_1582 h_1583 h_26 h_1503 h_1579 h_1580; omega) | omega, ⟨(Int.le_trans (by decide) h_1481.1), (Int.le_trans h_1481.2 (by decide))⟩, by decide, by decide⟩ ?_
            refine q_iconst rfl ?_
            refine v_zret rfl rfl (by decide) ?_
            refine bk_inl ?_
            refine v_if_eq_t (t := 136) rfl (by decide) (by decide) ?_
            refine Wp_ls [(0, .ref 41), (1, vi a1)] (lsub_cons rfl (lsub_cons rfl lsub_nil)) ?_
            have h_1585 : c_1574 41 5 = c_1363 1 5 := hrb_hR_1578.2.1
            have h_1586 : c_1574 41 6 = c_1363 1 4 := hrb_hR_1578.2.2.2
            have kn_1587 : Hid (c_1574 41 16 = c_1555 41 16) := hF_1576 41 16 (fun q => q.elim (fun h => absurd h.2 (ni rfl)) (fun q => q.elim (fun h => absurd h.2 (ni rfl)) (fun h => absurd h.2 (ni rfl))))
            have h_1588 : c_1574 41 16 = c_1555 41 16 := (hid kn_1587)
            have kn_1589 : Hid (c_1574 41 17 = c_1555 41 17) := hF_1576 41 17 (fun q => q.elim (fun h => absurd h.2 (ni rfl)) (fun q => q.elim (fun h => absurd h.2 (ni rfl)) (fun h => absurd h.2 (ni rfl))))
            have h_1590 : c_1574 41 17 = c_1555 41 17 := (hid kn_1589)
            have kn_1591 : Hid (c_1574 41 18 = c_1555 41 18) := hF_1576 41 18 (fun q => q.elim (fun h => absurd h.2 (ni rfl)) (fun q => q.elim (fun h => absurd h.2 (ni rfl)) (fun h => absurd h.2 (ni rfl))))
            have h_1592 : c_1574 41 18 = c_1555 41 18 := (hid kn_1591)
            have kn_1593 : Hid (c_1574 41 19 = c_1555 41 19) := hF_1576 41 19 (fun q => q.elim (fun h => absurd h.2 (ni rfl)) (fun q => q.elim (fun h => absurd h.2 (ni rfl)) (fun h => absurd h.2 (ni rfl))))
            have h_1594 : c_1574 41 19 = c_1555 41 19 := (hid kn_1593)
            have h_1595 : c_1574 41 16 = c_1555 41 16 := (hid kn_1587)
            have h_1596 : c_1574 41 17 = c_1555 41 17 := (hid kn_1589)
            have h_1597 : c_1574 41 18 = c_1555 41 18 := (hid kn_1591)
            exact K c_1574  hI_1575 (fun a j hm => (hF_1576 a j (fun q => q.elim (fun h => hm (Or.inl h)) (fun q => q.elim (fun h => hm (Or.inr (Or.inl h))) (fun h => hm (Or.inr (Or.inr (Or.inl h))))))).trans ((hF_1557 a j (fun q => q.elim (fun h => hm (Or.inl h)) (fun q => q.elim (fun h => hm (Or.inr (Or.inl h))) (fun q => q.elim (fun h => hm (Or.inr (Or.inr (Or.inl h)))) (fun q => q.elim (fun h => hm (Or.inr (Or.inr (Or.inr (Or.inl h))))) (fun q => q.elim (fun h => hm (Or.inr (Or.inr (Or.inr (Or.inr (Or.inl h)))))) (fun q => q.elim (fun h => hm (Or.inr (Or.inr (Or.inr (Or.inr (Or.inr (Or.inl h))))))) (fun q => q.elim (fun h => hm (Or.inr (Or.inr (Or.inr (Or.inr (Or.inr (Or.inr (Or.inl h)))))))) (fun q => q.elim (fun h => hm (Or.inr (Or.inr (Or.inr (Or.inr (Or.inr (Or.inr (Or.inr (Or.inl h))))))))) (fun q => q.elim (fun h => hm (Or.inr (Or.inr (Or.inr (Or.inr (Or.inr (Or.inr (Or.inr (Or.inr (Or.inl h)))))))))) (fun h => hm (Or.inr (Or.inr (Or.inr (Or.inr (Or.inr (Or.inr (Or.inr (Or.inr (Or.inr h)))))))))))))))))))).trans ((hF_1521 a j (fun h => hm (Or.inl h))).trans ((hF_1514 a j (fun h => hm (Or.inl h))).trans ((hF_1507 a j (fun h => hm (Or.inl h))).trans (hFc a j (fun q => q.elim (fun h => hm (Or.inl h)) (fun q => q.elim (fun h => hm (Or.inr (Or.inl h))) (fun q => q.elim (fun h => hm (Or.inr (Or.inr (Or.inl h)))) (fun q => q.elim (fun h => hm (Or.inr (Or.inr (Or.inr (Or.inl h))))) (fun q => q.elim (fun h => hm (Or.inr (Or.inr (Or.inr (Or.inr (Or.inl h)))))) (fun q => q.elim (fun h => hm (Or.inr (Or.inr (Or.inr (Or.inr (Or.inr (Or.inl h))))))) (fun q => q.elim (fun h => hm (Or.inr (Or.inr (Or.inr (Or.inr (Or.inr (Or.inr (Or.inl h)))))))) (fun q => q.elim (fun h => hm (Or.inr (Or.inr (Or.inr (Or.inr (Or.inr (Or.inr (Or.inr (Or.inl h))))))))) (fun q => q.elim (fun h => hm (Or.inr (Or.inr (Or.inr (Or.inr (Or.inr (Or.inr (Or.inr (Or.inr (Or.inl h)))))))))) (fun h => hm (Or.inr (Or.inr (Or.inr (Or.inr (Or.inr (Or.inr (Or.inr (Or.inr (Or.inr h))))))))))))))))))))))))) (rt_i2 ⟨⟨by first | (clear h_1 h_2 h_3 h_4 h_5 h_6 h_7 h_8 h_9 h_10 h_11 h_12 h_13 h_14 h_15 h_16 h_17 h_18 h_19 h_20 h_21 h_23 h_24 h_25 h_96 h_115 h_116 h_1362 h_1367 h_1478 h_1479 h_1480 h_1481 h_1482 h_1483 h_1484 h_1486 h_1487 h_1488 h_1490 h_1491 h_1492 h_1494 h_1495 h_1496 h_1498 h_1499 h_1501 h_1502 h_1504 h_1510 h_1511 h_1547 h_1567 h_1560 h_1568 h_1561 h_1569 h_1562 h_1570 h_1563 h_1573 h_1581 h_1582 h_1583 h_1584 h_26 h_1503 h_1579 h_1580; omega) | omega, by first | (clear h_1 h_2 h_3 h_4 h_5 h_6 h_7 h_8 h_9 h_10 h_11 h_12 h_13 h_14 h_15 h_16 h_17 h_18 h_19 h_20 h_21 h_23 h_24 h_25 h_96 h_115 h_116 h_1362 h_1367 h_1478 h_1479 h_1480 h_1481 h_1482 h_1483 h_1484 h_1486 h_1487 h_1488 h_1490 h_1491 h_1492 h_1494 h_1495 h_1496 h_1498 h_1499 h_1501 h_1502 h_1504 h_1510 h_1511 h_1547 h_1567 h_1560 h_1568 h_1561 h_1569 h_1562 h_1570 h_1563 h_1573 h_1581 h_1582 h_1583 h_1584 h_26 h_1503 h_1579 h_1580; omega) | omega⟩, by first | (clear h_1 h_2 h_3 h_4 h_5 h_6 h_7 h_8 h_9 h_10 h_11 h_12 h_13 h_14 h_15 h_16 h_17 h_18 h_19 h_20 h_21 h_23 h_24 h_25 h_96 h_115 h_116 h_1362 h_1367 h_1476 h_1477 h_1478 h_1479 h_1480 h_1484 h_1486 h_1487 h_1488 h_1490 h_1491 h_1492 h_1494 h_1495 h_1496 h_1498 h_1499 h_1501 h_1502 h_1504 h_1510 h_1511 h_1547 h_1567 h_1560 h_1568 h_1561 h_1569 h_1562 h_1570 h_1563 h_1573 h_1581 h_1582 h_1583 h_26 h_1503 h_1579 h_1580; omega) | omega, by first | (clear h_1 h_2 h_3 h_4 h_5 h_6 h_7 h_8 h_9 h_10 h_11 h_12 h_13 h_14 h_15 h_16 h_17 h_18 h_19 h_20 h_21 h_23 h_24 h_25 h_96 h_115 h_116 h_1362 h_1367 h_1476 h_1477 h_1478 h_1479 h_1480 h_1484 h_1486 h_1487 h_1488 h_1490 h_1491 h_1492 h_1494 h_1495 h_1496 h_1498 h_1499 h_1501 h_1502 h_1504 h_1510 h_1511 h_1547 h_1567 h_1560 h_1568 h_1561 h_1569 h_1562 h_1570 h_1563 h_1573 h_1581 h_1582 h_1583 h_26 h_1503 h_1579 h_1580; omega) | omega, by first | (clear h_1 h_2 h_3 h_4 h_5 h_6 h_7 h_8 h_9 h_10 h_11 h_12 h_13 h_14 h_15 h_16 h_17 h_18 h_19 h_20 h_21 h_23 h_24 h_25 h_96 h_115 h_116 h_1362 h_1478 h_1479 h_1480 h_1481 h_1482 h_1483 h_1484 h_1486 h_1487 h_1488 h_1490 h_1491 h_1492 h_1494 h_1495 h_1496 h_1498 h_1499 h_1501 h_1502 h_1504 h_1510 h_1511 h_1547 h_1567 h_1560 h_1568 h_1561 h_1569 h_1562 h_1570 h_1563 h_1573 h_1581 h_1582 h_1583 h_26 h_1503; omega) | omega⟩) (Or.inr (Or.inl (by first | (clear h_1 h_2 h_3 h_4 h_5 h_6 h_7 h_8 h_9 h_10 h_11 h_12 h_13 h_14 h_15 h_16 h_17 h_18 h_19 h_20 h_21 h_23 h_24 h_25 h_96 h_115 h_116 h_1362 h_1367 h_1478 h_1479 h_1480 h_1481 h_1482 h_1483 h_1484 h_1486 h_1487 h_1488 h_1490 h_1491 h_1492 h_1494 h_1495 h_1496 h_1498 h_1499 h_1501 h_1502 h_1504 h_1510 h_1511 h_1547 h_1567 h_1560 h_1568 h_1561 h_1569 h_1562 h_1570 h_1563 h_1573 h_1581 h_1582 h_1583 h_1584 h_26 h_1503 h_1579 h_1580; omega) | omega))) (fun hz => absurd hz (by omega)) (fun hz => absurd hz (by omega)) (fun hz => absurd hz (by omega))
set_option maxRecDepth 100000 in
set_option maxHeartbeats 4000000 in
theorem L_34a {sc : List Int32} {e eg : Int} {d dh u ug P Q P2 Q2 A : Nat} {c m m9 : ME} {a1 e1 f0 g0 z0 z1 z2 z3 : Int} {F H : Int → Int} {Z : AR → Prop} (hI : Iv u e P2 Q2 c) (hJ : Iv ug eg P Q m) (hJ9 : Iv ug eg P Q m9) (hA : A = 13 ∨ A = 25) (ha1 : (-2147483648) ≤ a1 ∧ a1 ≤ 2147483647) (hq0 : (f0 = 0)) (hq1 : (g0 = (-1))) (hq2 : (z0 = 0)) (hq3 : (z1 = 0)) (hq4 : (z2 = 0)) (hq5 : (z3 = 5)) (hg_e1 : m 1 1 = e1) (hr_e1 : c 41 3 = e1) (hg_f0 : m 1 4 = f0) (hg_g0 : m 1 5 = g0) (hr_z0 : c 41 16 = z0) (hr_z1 : c 41 17 = z1) (hr_z2 : c 41 18 = z2) (hr_z3 : c 41 19 = z3) (hF : ∀ j : Int, m 2 j = F j) (hH : ∀ j : Int, c 43 j = H j) (hU : Ub F H) (hRt : Rt m c) (hG : Wp sc (dh + 30) 34 0 [(0, .ref A), (1, .ref 1)] [] (Wd P Q P P m) 0 0 (fun q => q = (.inl (none), Wd P Q P P m9, 0, 0))) (K : ∀ (c2 : ME), Iv u e P2 Q2 c2 → (∀ (a : Nat) (j : Int), ¬ ((a = 41 ∧ j = 4) ∨ (a = 41 ∧ j = 5) ∨ (a = 41 ∧ j = 6) ∨ (a = 41 ∧ j = 16) ∨ (a = 41 ∧ j = 17) ∨ (a = 41 ∧ j = 18) ∨ (a = 41 ∧ j = 19) ∨ a = 44 ∨ a = 45 ∨ a = 46) → c2 a j = c a j) → (Rt m9 c2) → ((m9 1 4 < 0) ∨ (m9 1 4 > 0) ∨ (m9 A 0 = c2 41 16 ∧ m9 A 1 = c2 41 17 ∧ m9 A 2 = c2 41 18 ∧ m9 A 3 = c2 41 19)) → (m9 1 4 = 0 → Ae (4 * c2 41 16) (m9 (A + 1)) (c2 44)) → (m9 1 4 = 0 → Ae (3 * c2 41 17) (m9 (A + 2)) (c2 45)) → (m9 1 4 = 0 → Ae (c2 41 18) (m9 (A + 3)) (c2 46)) → Wp sc (d + 22) 169 136 [(0, .ref 41), (1, vi a1)] [] (Wd P2 Q2 P2 P2 c2) 0 0 Z) : Wp sc (d + 22) 169 44 [(0, .ref 41), (1, vi a1), (2, vi 0)] [] (Wd P2 Q2 P2 P2 c) 0 0 Z := by
  have hP := iv_P hJ
  have hQ := iv_Q hJ
  have h_1598 := ir_1_1 hJ
  have h_1599 := ir_41_3 hI
  have h_1600 := ir_1_4 hJ
  have h_1601 := ir_1_5 hJ
  have h_1602 := ir_41_16 hI
  have h_1603 := ir_41_17 hI
  have h_1604 := ir_41_18 hI
  have h_1605 := ir_41_19 hI
  refine gh hG ?_
  refine q_aload_n rfl rfl ?_
  refine v_cv rfl rfl rfl (ck_p0 hA) (by omega) ⟨⟨rfl, rfl⟩, by decide, rfl⟩ (Nat.le_of_ble_eq_true rfl) (Nat.le_of_ble_eq_true rfl) (s_30 hJ hA (fun c_1606 hI_1607 hF_1608 h_1609 h_1610 => ?_))
  refine bk_inl ?_
  have h_1611 := ir_p0_0 hI_1607 hA
  have h_1612 := ir_p0_1 hI_1607 hA
  have h_1613 := ir_p0_2 hI_1607 hA
  have h_1614 := ir_p0_3 hI_1607 hA
  have h_1615 := ir_p0_4 hI_1607 hA
  have h_1616 := ir_p0_5 hI_1607 hA
  have h_1617 := ir_p7_4 hI_1607 hA
  refine q_iconst rfl ?_
  refine q_istore_n rfl (by decide) ?_
  have kn_1618 : Hid (c_1606 1 4 = f0) := (hF_1608 1 4 (fun q => q.elim (fun h => absurd h.1 (pn0 hA rfl)) (fun q => q.elim (fun h => absurd h.1 (pn0 hA rfl)) (fun q => q.elim (fun h => absurd h.1 (pn0 hA rfl)) (fun q => q.elim (fun h => absurd h.1 (pn0 hA rfl)) (fun q => q.elim (fun h => absurd h.1 (pn0 hA rfl)) (fun q => q.elim (fun h => absurd h.1 (pn0 hA rfl)) (fun q => q.elim (fun h => absurd h (pn hA rfl rfl)) (fun h => absurd h.1 (pn hA rfl rfl)))))))))).trans (hg_f0)
  refine Wp_ls [(0, .ref A), (1, .ref 1), (2, vi 0)] (lsub_cons rfl (lsub_cons rfl (lsub_cons rfl lsub_nil))) ?_
  refine gh_stop (s_34_l (sc := sc) (d := dh + 18) (c := c_1606) (Z := fun _ => True) hI_1607 hA (fun _ _ _ => trivial) 124 c_1606 0 hI_1607 (fun a j hm => rfl) ⟨by omega, by omega⟩ (by omega)) (fun hG_1619 => ?_)
  refine Wp_ls [(0, .ref 41), (1, vi a1), (2, vi 0)] (lsub_cons rfl (lsub_cons rfl (lsub_cons rfl lsub_nil))) ?_
  have h_1620 := ir_1_2 hJ
  have kn_1621 : Hid (c_1606 1 2 = m 1 2) := hF_1608 1 2 (fun q => q.elim (fun h => absurd h.1 (pn0 hA rfl)) (fun q => q.elim (fun h => absurd h.1 (pn0 hA rfl)) (fun q => q.elim (fun h => absurd h.1 (pn0 hA rfl)) (fun q => q.elim (fun h => absurd h.1 (pn0 hA rfl)) (fun q => q.elim (fun h => absurd h.1 (pn0 hA rfl)) (fun q => q.elim (fun h => absurd h.1 (pn0 hA rfl)) (fun q => q.elim (fun h => absurd h (pn hA rfl rfl)) (fun h => absurd h.1 (pn hA rfl rfl)))))))))
  have h_1622 := ir_41_4 hI
  have h_1623 := ir_41_5 hI
  have h_1624 := ir_41_6 hI
  have h_1625 := rt_ok hRt (by omega)
  have hro_hRt := rt_ok hRt (by omega)
  have kn_1626 : Hid (c_1606 1 5 = g0) := (hF_1608 1 5 (fun q => q.elim (fun h => absurd h.1 (pn0 hA rfl)) (fun q => q.elim (fun h => absurd h.1 (pn0 hA rfl)) (fun q => q.elim (fun h => absurd h.1 (pn0 hA rfl)) (fun q => q.elim (fun h => absurd h.1 (pn0 hA rfl)) (fun q => q.elim (fun h => absurd h.1 (pn0 hA rfl)) (fun q => q.elim (fun h => absurd h.1 (pn0 hA rfl)) (fun q => q.elim (fun h => absurd h (pn hA rfl rfl)) (fun h => absurd h.1 (pn hA rfl rfl)))))))))).trans (hg_g0)
  have hA_1627 : Ae (4 * c_1606 A 0) (c_1606 (A + 1)) (c 44) := ae_z (by omega)
  have hA_1628 : Ae (3 * c_1606 A 1) (c_1606 (A + 2)) (c 45) := ae_z (by omega)
  have hA_1629 : Ae (c_1606 A 2) (c_1606 (A + 3)) (c 46) := ae_z (by omega)
  exact (L_34a_l (sc := sc) (d := d) (dh := dh) hI hJ hJ9 hA ha1 hq0 hq1 hq2 hq3 hq4 hq5 hg_e1 hr_e1 hg_f0 hg_g0 hr_z0 hr_z1 hr_z2 hr_z3 hF hH hU hRt K 62) c c_1606 0 (m 1 2) (c_1606 A 0) (c_1606 A 1) (c_1606 A 2) (c_1606 A 3) hI (fun a j hm => rfl) hI_1607 (fun a j hm => hF_1608 a j (fun q => q.elim (fun h => hm (Or.inr (Or.inr (Or.inr (Or.inl h))))) (fun q => q.elim (fun h => hm (Or.inr (Or.inr (Or.inr (Or.inr (Or.inl h)))))) (fun q => q.elim (fun h => hm (Or.inr (Or.inr (Or.inr (Or.inr (Or.inr (Or.inl h))))))) (fun q => q.elim (fun h => hm (Or.inr (Or.inr (Or.inr (Or.inr (Or.inr (Or.inr (Or.inl h)))))))) (fun q => q.elim (fun h => hm (Or.inr (Or.inr (Or.inr (Or.inr (Or.inr (Or.inr (Or.inr (Or.inr (Or.inr (Or.inr (Or.inl h)))))))))))) (fun q => q.elim (fun h => hm (Or.inr (Or.inr (Or.inr (Or.inr (Or.inr (Or.inr (Or.inr (Or.inr (Or.inr (Or.inr (Or.inr (Or.inl h))))))))))))) (fun q => q.elim (fun h => hm (Or.inr (Or.inr (Or.inr (Or.inr (Or.inr (Or.inr (Or.inr (Or.inr (Or.inr (Or.inr (Or.inr (Or.inr (Or.inl h)))))))))))))) (fun h => hm (Or.inr (Or.inr (Or.inr (Or.inr (Or.inr (Or.inr (Or.inr (Or.inr (Or.inr (Or.inr (Or.inr (Or.inr (Or.inr h)))))))))))))))))))))) ⟨by omega, by omega⟩ ⟨by omega, by omega⟩ ⟨by omega, by omega⟩ ⟨by omega, by omega⟩ ⟨by omega, by omega⟩ ⟨by omega, by omega⟩ ((hid kn_1621)) (hro_hRt.2.2.1) (rfl) ((show _ = z0 from (hr_z0)).trans (by omega)) (rfl) ((show _ = z1 from (hr_z1)).trans (by omega)) (rfl) ((show _ = z2 from (hr_z2)).trans (by omega)) (rfl) ((show _ = z3 from (hr_z3)).trans (by omega)) ((show _ = f0 from (hid kn_1618)).trans (by omega)) (hro_hRt.2.1) ((show _ = g0 from (hid kn_1626)).trans (by omega)) (ae_le hA_1627 (by omega)) (ae_le hA_1628 (by omega)) (ae_le hA_1629 (by omega)) hG_1619 (by omega)

