/-! ===== class and reference side by side 13 ===== -/
set_option maxRecDepth 100000 in
set_option maxHeartbeats 4000000 in
theorem L_13_n {sc : List Int32} {e eg : Int} {u ug P Q P2 Q2 A : Nat} {F H : Int → Int} (hA : A = 13 ∨ A = 25) (k : Nat) : ∀ (d dh : Nat) (c m m9 : ME) (a2 e1 f0 g0 p0 n0 o0 : Int) (Z : AR → Prop), 6 - a2 ≤ (k : Int) → (Iv u e P2 Q2 c) → (Iv ug eg P Q m) → (Iv ug eg P Q m9) → (0 ≤ a2 ∧ a2 ≤ 6) → ((f0 = 0)) → ((g0 = (-1))) → ((o0 = a2)) → ((n0 ≤ p0)) → ((p0 ≤ e1)) → ((e1 ≤ 150)) → (m 1 1 = e1) → (c 41 3 = e1) → (m 1 4 = f0) → (m 1 5 = g0) → (m 1 2 = p0) → (m (A + 7) 5 = n0) → (c 41 29 = n0) → (c 41 7 = o0) → (∀ j : Int, m 2 j = F j) → (∀ j : Int, c 43 j = H j) → (Ub F H) → (Rt m c) → (Ce n0 (m (A + 9)) (c 50) (c 51)) → (Wp sc (dh + 3 * k + 36) 13 0 [(0, .ref (A + 7)), (1, .ref 1), (2, vi a2)] [] (Wd P Q P P m) 0 0 (fun q => q = (.inl (none), Wd P Q P P m9, 0, 0))) → (∀ (c2 : ME), Iv u e P2 Q2 c2 → (∀ (a : Nat) (j : Int), ¬ ((a = 41 ∧ j = 4) ∨ (a = 41 ∧ j = 5) ∨ (a = 41 ∧ j = 6) ∨ (a = 41 ∧ j = 7) ∨ (a = 41 ∧ j = 29) ∨ a = 50 ∨ a = 51) → c2 a j = c a j) → (Rt m9 c2) → ((m9 1 4 < 0) ∨ (m9 1 4 > 0) ∨ (m9 (A + 7) 5 = c2 41 29 ∧ c2 41 29 + p0 ≤ m9 1 2 + n0 ∧ m9 1 2 ≤ e1 ∧ m9 1 2 ≥ p0)) → ((c2 41 7 = a2)) → (m9 1 4 = 0 → Ce (c2 41 29) (m9 (A + 9)) (c2 50) (c2 51)) → Z (.inl (none), Wd P2 Q2 P2 P2 c2, 0, 0)) → Wp sc (d + 4 * k + 36) 174 0 [(0, .ref 41)] [] (Wd P2 Q2 P2 P2 c) 0 0 Z := by
  induction k with
  | zero =>
    intro d dh c m m9 a2 e1 f0 g0 p0 n0 o0 Z hk hI hJ hJ9 ha2 hq0 hq1 hq2 hq3 hq4 hq5 hg_e1 hr_e1 hg_f0 hg_g0 hg_p0 hg_n0 hr_n0 hr_o0 hF hH hU hRt hr0 hG K
    exact L_13 (d := d) (dh := dh) hI hJ hJ9 hA ha2 hq0 hq1 hq2 hq3 hq4 hq5 hg_e1 hr_e1 hg_f0 hg_g0 hg_p0 hg_n0 hr_n0 hr_o0 hF hH hU hRt hr0 (fun _ h9 => absurd h9 (by omega)) hG K
  | succ k ih =>
    intro d dh c m m9 a2 e1 f0 g0 p0 n0 o0 Z hk hI hJ hJ9 ha2 hq0 hq1 hq2 hq3 hq4 hq5 hg_e1 hr_e1 hg_f0 hg_g0 hg_p0 hg_n0 hr_n0 hr_o0 hF hH hU hRt hr0 hG K
    rw [show dh + 3 * (k + 1) + 36 = (dh + 3 * k + 3) + 36 by omega] at hG
    rw [show d + 4 * (k + 1) + 36 = (d + 4 * k + 4) + 36 by omega]
    refine L_13 (d := d + 4 * k + 4) (dh := dh + 3 * k + 3) hI hJ hJ9 hA ha2 hq0 hq1 hq2 hq3 hq4 hq5 hg_e1 hr_e1 hg_f0 hg_g0 hg_p0 hg_n0 hr_n0 hr_o0 hF hH hU hRt hr0 (fun {d9 c m m9 e1 f0 g0 p0 n0 o0 Z} h1 h2 hI hJ hJ9 ha2 hq0 hq1 hq2 hq3 hq4 hq5 hg_e1 hr_e1 hg_f0 hg_g0 hg_p0 hg_n0 hr_n0 hr_o0 hF hH hU hRt hr0 hG K => ?_) hG K
    rw [show dh + 3 * k + 3 + 33 = dh + 3 * k + 36 by omega] at hG
    have r := ih (d9 - 4 * k - 4) dh c m m9 (a2 + 1) e1 f0 g0 p0 n0 o0 Z (by omega) hI hJ hJ9 ha2 hq0 hq1 hq2 hq3 hq4 hq5 hg_e1 hr_e1 hg_f0 hg_g0 hg_p0 hg_n0 hr_n0 hr_o0 hF hH hU hRt hr0 hG K
    rw [show d9 - 4 * k - 4 + 4 * k + 36 = d9 + 32 by omega] at r
    exact r
set_option maxRecDepth 100000 in
set_option maxHeartbeats 4000000 in
theorem L_13c {sc : List Int32} {e eg : Int} {d dh u ug P Q P2 Q2 A : Nat} {c m m9 : ME} {a2 e1 f0 g0 p0 n0 o0 : Int} {F H : Int → Int} {Z : AR → Prop} (hI : Iv u e P2 Q2 c) (hJ : Iv ug eg P Q m) (hJ9 : Iv ug eg P Q m9) (hA : A = 13 ∨ A = 25) (ha2 : 0 ≤ a2 ∧ a2 ≤ 6) (hq0 : (f0 = 0)) (hq1 : (g0 = (-1))) (hq2 : (o0 = a2)) (hq3 : (n0 ≤ p0)) (hq4 : (p0 ≤ e1)) (hq5 : (e1 ≤ 150)) (hg_e1 : m 1 1 = e1) (hr_e1 : c 41 3 = e1) (hg_f0 : m 1 4 = f0) (hg_g0 : m 1 5 = g0) (hg_p0 : m 1 2 = p0) (hg_n0 : m (A + 7) 5 = n0) (hr_n0 : c 41 29 = n0) (hr_o0 : c 41 7 = o0) (hF : ∀ j : Int, m 2 j = F j) (hH : ∀ j : Int, c 43 j = H j) (hU : Ub F H) (hRt : Rt m c) (hr0 : Ce n0 (m (A + 9)) (c 50) (c 51)) (hG : Wp sc (dh + 54) 13 0 [(0, .ref (A + 7)), (1, .ref 1), (2, vi a2)] [] (Wd P Q P P m) 0 0 (fun q => q = (.inl (none), Wd P Q P P m9, 0, 0))) (K : ∀ (c2 : ME), Iv u e P2 Q2 c2 → (∀ (a : Nat) (j : Int), ¬ ((a = 41 ∧ j = 4) ∨ (a = 41 ∧ j = 5) ∨ (a = 41 ∧ j = 6) ∨ (a = 41 ∧ j = 7) ∨ (a = 41 ∧ j = 29) ∨ a = 50 ∨ a = 51) → c2 a j = c a j) → (Rt m9 c2) → ((m9 1 4 < 0) ∨ (m9 1 4 > 0) ∨ (m9 (A + 7) 5 = c2 41 29 ∧ c2 41 29 + p0 ≤ m9 1 2 + n0 ∧ m9 1 2 ≤ e1 ∧ m9 1 2 ≥ p0)) → ((c2 41 7 = a2)) → (m9 1 4 = 0 → Ce (c2 41 29) (m9 (A + 9)) (c2 50) (c2 51)) → Z (.inl (none), Wd P2 Q2 P2 P2 c2, 0, 0)) : Wp sc (d + 60) 174 0 [(0, .ref 41)] [] (Wd P2 Q2 P2 P2 c) 0 0 Z := by
  rw [show dh + 54 = dh + 3 * 6 + 36 by omega] at hG
  rw [show d + 60 = d + 4 * 6 + 36 by omega]
  exact L_13_n hA 6 d dh c m m9 a2 e1 f0 g0 p0 n0 o0 Z (by omega) hI hJ hJ9 ha2 hq0 hq1 hq2 hq3 hq4 hq5 hg_e1 hr_e1 hg_f0 hg_g0 hg_p0 hg_n0 hr_n0 hr_o0 hF hH hU hRt hr0 hG K
set_option maxRecDepth 100000 in
set_option maxHeartbeats 4000000 in
theorem L_85l {sc : List Int32} {d dh P Q P2 Q2 : Nat} {c m m9 : ME} {a1 yg t9 nl : Int} {F H : Int → Int} {Z : AR → Prop} (hI : Iv 0 (-1) P2 Q2 c) (hJ : Iv 0 (-1) P Q m) (hJ9 : Iv 0 (-1) P Q m9) (ha1 : (-2147483648) ≤ a1 ∧ a1 ≤ 2147483647) (hyg : (-2147483648) ≤ yg ∧ yg ≤ 2147483647) (hq0 : (a1 ≥ 0 ∧ a1 ≤ t9 ∧ a1 ≤ 150)) (hg_t9 : m 1 3 = t9) (hr_t9 : c 41 2 = t9) (hg_nl : m (P + 7) 4 = nl) (hr_nl : c 41 30 = nl) (hF : ∀ j : Int, m 2 j = F j) (hH : ∀ j : Int, c 43 j = H j) (hU : Ub F H) (hr0 : Ce nl (m (P + 8)) (c 52) (c 53)) (hG : Wp sc (dh + 62) 85 0 [(0, .ref 0), (1, vi a1)] [] (Wd P Q P P m) 0 0 (fun q => q = (.inl (some (vi yg)), Wd P Q P P m9, 0, 0))) (K : ∀ (c2 : ME) (y : Int), Iv 0 (-1) P2 Q2 c2 → (∀ (a : Nat) (j : Int), ¬ ((a = 41 ∧ j = 0) ∨ a = 42 ∨ (a = 41 ∧ j = 2) ∨ (a = 41 ∧ j = 3) ∨ (a = 41 ∧ j = 4) ∨ (a = 41 ∧ j = 5) ∨ (a = 41 ∧ j = 6) ∨ (a = 41 ∧ j = 7) ∨ (a = 41 ∧ j = 8) ∨ (a = 41 ∧ j = 29) ∨ (a = 41 ∧ j = 30) ∨ a = 50 ∨ a = 51 ∨ a = 52 ∨ a = 53) → c2 a j = c a j) → (-2147483648) ≤ y ∧ y ≤ 2147483647 → ((y = yg)) → ((c2 41 2 = 0)) → ((c2 41 8 = m9 1 5)) → ((c2 41 0 = 0)) → ((m9 (P + 7) 4 = c2 41 30)) → (Ce (c2 41 30) (m9 (P + 8)) (c2 52) (c2 53)) → Z (.inl (some (vi y)), Wd P2 Q2 P2 P2 c2, 0, 0)) : Wp sc (d + 66) 177 0 [(0, .ref 41), (1, vi a1)] [] (Wd P2 Q2 P2 P2 c) 0 0 Z := by
  have hP := iv_P hJ
  have hQ := iv_Q hJ
  have h_1 := ir_1_3 hJ
  have h_2 := ir_41_2 hI
  have h_3 := ir_p7_4 hJ hP
  have h_4 := ir_41_30 hI
  refine gh hG ?_
  refine q_aload_n rfl rfl ?_
  refine q_iload_n rfl rfl ?_
  refine v_sip rfl (by decide) ?_
  refine v_cv rfl rfl rfl rfl (by decide) ⟨⟨rfl, rfl⟩, by decide, rfl⟩ (Nat.le_of_ble_eq_true rfl) (Nat.le_of_ble_eq_true rfl) ?_
  refine q_aload_n rfl rfl ?_
  refine q_iload_n rfl rfl ?_
  refine q_iconst rfl ?_
  refine q_iload_n rfl rfl ?_
  refine q_aload_n rfl rfl ?_
  refine v_gr (t := 1) rfl rfl rfl (by decide) rfl ?_
  refine v_gi (z := 3) (v := t9) rfl rfl rfl (by decide) rfl rfl (hg_t9) ?_
  refine v_minx rfl rfl (by omega) (Nat.le_of_ble_eq_true rfl) ⟨by omega, by omega, by omega, by omega⟩ (fun y_5 hy_5 => ?_)
  refine q_call rfl rfl rfl rfl ?_
  refine q_iload_n rfl rfl ?_
  refine q_iload_n rfl rfl ?_
  refine v_ic_lt_f (t := 14) rfl (by decide) ⟨by decide, by omega, ha1.2⟩ ?_
  refine q_iload_n rfl rfl ?_
  refine q_iload_n rfl rfl ?_
  refine v_ic_gt_f (t := 14) rfl (by decide) (by omega) ?_
  refine q_iconst rfl ?_
  refine q_goto (t := 15) rfl (by decide) ?_
  refine v_zret rfl rfl (by decide) ?_
  refine bk_inl ?_
  refine v_cv rfl rfl rfl rfl (by decide) ⟨⟨rfl, rfl⟩, by decide, rfl⟩ (Nat.le_of_ble_eq_true rfl) (Nat.le_of_ble_eq_true rfl) ?_
  refine q_iload_n rfl rfl ?_
  refine v_if_ne_t (t := 25) rfl (by decide) (by decide) ?_
  refine q_vret rfl rfl ?_
  refine bk_inl ?_
  refine q_aload_n rfl rfl ?_
  refine v_gr (t := 1) rfl rfl rfl (by decide) rfl ?_
  refine q_iload_n rfl rfl ?_
  refine v_cv rfl rfl rfl rfl (by decide) ⟨⟨rfl, rfl⟩, by decide, rfl⟩ (Nat.le_of_ble_eq_true rfl) (Nat.le_of_ble_eq_true rfl) ?_
  refine q_aload_n rfl rfl ?_
  refine q_iload_n rfl rfl ?_
  refine q_aload_n rfl rfl ?_
  refine v_gi (z := 3) (v := t9) rfl rfl rfl (by decide) rfl rfl (hg_t9) ?_
  refine v_minx rfl rfl (by omega) (Nat.le_of_ble_eq_true rfl) ⟨by omega, by omega, by omega, by omega⟩ (fun y_6 hy_6 => ?_)
  refine v_pi (z := 1) rfl rfl rfl (by decide) rfl rfl rfl (by decide) ?_
  refine q_aload_n rfl rfl ?_
  refine q_iconst rfl ?_
  refine v_pi (z := 2) rfl rfl rfl (by decide) rfl rfl rfl (by decide) ?_
  refine q_aload_n rfl rfl ?_
  refine q_iconst rfl ?_
  refine v_pi (z := 3) rfl rfl rfl (by decide) rfl rfl rfl (by decide) ?_
  refine q_aload_n rfl rfl ?_
  refine q_iconst rfl ?_
  refine v_pi (z := 4) rfl rfl rfl (by decide) rfl rfl rfl (by decide) ?_
  refine q_aload_n rfl rfl ?_
  refine q_iconst rfl ?_
  refine v_pi (z := 5) rfl rfl rfl (by decide) rfl rfl rfl (by decide) ?_
  refine q_vret rfl rfl ?_
  refine bk_inl ?_
  refine q_vret rfl rfl ?_
  refine bk_inl ?_
  refine q_aload_n rfl rfl ?_
  refine v_gr (t := P) rfl rfl rfl (by decide) rfl ?_
  refine v_gr (t := (P + 7)) rfl rfl (ck_p0 hP) (a68z hP) rfl ?_
  refine q_aload_n rfl rfl ?_
  refine v_gr (t := 1) rfl rfl rfl (by decide) rfl ?_
  refine v_cv rfl rfl rfl (ck_p7 hP) (a68 hP rfl) ⟨⟨rfl, rfl⟩, by decide, rfl⟩ (Nat.le_of_ble_eq_true rfl) (Nat.le_of_ble_eq_true rfl) ?_
  refine q_aload_n rfl rfl ?_
  refine q_iconst rfl ?_
  refine v_pi (z := 5) rfl rfl (ck_p7 hP) (a68 hP rfl) rfl rfl rfl (by decide) ?_
  refine q_aload_n rfl rfl ?_
  refine q_aload_n rfl rfl ?_
  refine q_iconst rfl ?_
  have hI_7 := iw_1_1 (v := y_6) hJ ⟨by omega, by omega⟩
  have hI_8 := iw_1_2 (v := 0) hI_7 ⟨by decide, by decide⟩
  have hI_9 := iw_1_3 (v := 0) hI_8 ⟨by decide, by decide⟩
  have hI_10 := iw_1_4 (v := 0) hI_9 ⟨by decide, by decide⟩
  have hI_11 := iw_1_5 (v := (-1)) hI_10 ⟨by decide, by decide⟩
  have hI_12 := iw_p7_5 (v := 0) hI_11 hP ⟨by decide, by decide⟩
  refine v_cv rfl rfl rfl (ck_p7 hP) (a68 hP rfl) ⟨⟨rfl, rfl⟩, by decide, rfl⟩ (Nat.le_of_ble_eq_true rfl) (Nat.le_of_ble_eq_true rfl) (fn_of (r_13 (a2 := 0) hI_12 hP (show 0 ≤ 0 ∧ 0 ≤ 6 from ⟨by decide, by decide⟩) (fun c_13 hI_14 hF_15 => ?_)))
  intro hG_16
  refine bk_inl ?_
  refine q_aload_n rfl rfl ?_
  refine v_cv rfl rfl rfl rfl (by decide) ⟨⟨rfl, rfl⟩, by decide, rfl⟩ (Nat.le_of_ble_eq_true rfl) (Nat.le_of_ble_eq_true rfl) ?_
  refine q_aload_n rfl rfl ?_
  refine v_cv rfl rfl rfl rfl (by decide) ⟨⟨rfl, rfl⟩, by decide, rfl⟩ (Nat.le_of_ble_eq_true rfl) (Nat.le_of_ble_eq_true rfl) ?_
  refine q_aload_n rfl rfl ?_
  refine v_cv rfl rfl rfl rfl (by decide) ⟨⟨rfl, rfl⟩, by decide, rfl⟩ (Nat.le_of_ble_eq_true rfl) (Nat.le_of_ble_eq_true rfl) ?_
  refine q_aload_n rfl rfl ?_
  have h_17 := ir_1_4 hI_14
  refine v_gi (z := 4) (v := c_13 1 4) rfl rfl rfl (by decide) rfl rfl rfl ?_
  by_cases h_18 : c_13 1 4 ≠ 0
  · refine v_if_ne_t (t := 11) rfl (by decide) ⟨h_18, ⟨(Int.le_trans (by decide) h_17.1), (Int.le_trans h_17.2 (by decide))⟩, by decide, by decide⟩ ?_
    refine q_iconst rfl ?_
    refine v_zret rfl rfl (by decide) ?_
    refine bk_inl ?_
    refine v_if_eq_t (t := 22) rfl (by decide) (by decide) ?_
    refine q_iconst rfl ?_
    refine v_zret rfl rfl (by decide) ?_
    refine bk_inl ?_
    refine v_if_eq_t (t := 16) rfl (by decide) (by decide) ?_
    refine q_vret rfl rfl ?_
    refine bk_inl ?_
    refine q_aload_n rfl rfl ?_
    refine v_cv rfl rfl rfl rfl (by decide) ⟨⟨rfl, rfl⟩, by decide, rfl⟩ (Nat.le_of_ble_eq_true rfl) (Nat.le_of_ble_eq_true rfl) ?_
    refine q_aload_n rfl rfl ?_
    refine v_gi (z := 4) (v := c_13 1 4) rfl rfl rfl (by decide) rfl rfl rfl ?_
    refine v_if_ne_t (t := 11) rfl (by decide) ⟨by omega, ⟨(Int.le_trans (by decide) h_17.1), (Int.le_trans h_17.2 (by decide))⟩, by decide, by decide⟩ ?_
    refine q_iconst rfl ?_
    refine v_zret rfl rfl (by decide) ?_
    refine bk_inl ?_
    refine v_if_eq_t (t := 46) rfl (by decide) (by decide) ?_
    refine q_vret rfl rfl ?_
    refine bk_inl ?_
    refine q_aload_n rfl rfl ?_
    refine q_iconst rfl ?_
    refine v_cv rfl rfl rfl rfl (by decide) ⟨⟨rfl, rfl⟩, by decide, rfl⟩ (Nat.le_of_ble_eq_true rfl) (Nat.le_of_ble_eq_true rfl) ?_
    refine q_aload_n rfl rfl ?_
    refine v_gr (t := 1) rfl rfl rfl (by decide) rfl ?_
    refine v_cv rfl rfl rfl rfl (by decide) ⟨⟨rfl, rfl⟩, by decide, rfl⟩ (Nat.le_of_ble_eq_true rfl) (Nat.le_of_ble_eq_true rfl) ?_
    refine q_aload_n rfl rfl ?_
    refine v_gi (z := 4) (v := c_13 1 4) rfl rfl rfl (by decide) rfl rfl rfl ?_
    refine v_if_ne_t (t := 11) rfl (by decide) ⟨by omega, ⟨(Int.le_trans (by decide) h_17.1), (Int.le_trans h_17.2 (by decide))⟩, by decide, by decide⟩ ?_
    refine q_iconst rfl ?_
    refine v_zret rfl rfl (by decide) ?_
    refine bk_inl ?_
    refine v_if_eq_t (t := 14) rfl (by decide) (by decide) ?_
    refine q_aload_n rfl rfl ?_
    refine v_gr (t := 1) rfl rfl rfl (by decide) rfl ?_
    refine v_gi (z := 4) (v := c_13 1 4) rfl rfl rfl (by decide) rfl rfl rfl ?_
    refine v_bip rfl (by decide) ?_
    refine v_isub (v := c_13 1 4 - 10) rfl rfl ?_
    refine q_iret rfl rfl ?_
    refine bk_inl ?_
    refine q_iret rfl rfl ?_
    intro hE_19
    have h_20 : yg = c_13 1 4 - 10 := (vi_inj ⟨by omega, by omega⟩ ⟨by omega, by omega⟩ (Option.some.inj (Sum.inl.inj (Prod.mk.inj hE_19).1))).symm
    have hW : Wd P Q P P c_13 = Wd P Q P P m9 := (Prod.mk.inj (Prod.mk.inj hE_19).2).1
    have h_21 := ir_1_5 hI_14
    have h_22 := ir_1_5 hJ9
    have h_23 : m9 1 5 = c_13 1 5 := wd_fv (z := 5) 5 rfl hW rfl rfl rfl rfl (by decide) rfl ⟨(Int.le_trans (by decide) h_21.1), (Int.le_trans h_21.2 (by decide))⟩ ⟨(Int.le_trans (by decide) h_22.1), (Int.le_trans h_22.2 (by decide))⟩
    have kn_24 : Hid (c_13 (P + 7) 4 = nl) := (hF_15 (P + 7) 4 (fun q => q.elim (fun h => absurd h.1 (np hP rfl rfl)) (fun q => q.elim (fun h => absurd h.1 (np hP rfl rfl)) (fun q => q.elim (fun h => absurd h.1 (np hP rfl rfl)) (fun q => q.elim (fun h => absurd h.2 (ni rfl)) (fun h => absurd h (pp rfl))))))).trans ((up_n (by decide)).trans ((up_c (np hP rfl rfl)).trans ((up_c (np hP rfl rfl)).trans ((up_c (np hP rfl rfl)).trans ((up_c (np hP rfl rfl)).trans ((up_c (np hP rfl rfl)).trans (hg_nl)))))))
    have h_25 := ir_p7_4 hJ9 hP
    have h_26 : m9 (P + 7) 4 = nl := wd_fv (z := 4) 4 rfl hW (ck_p7 hP) (ck_p7 hP) rfl rfl (by omega) (hid kn_24) ⟨(Int.le_trans (by decide) (rg_eq hg_nl h_3).1), (Int.le_trans (rg_eq hg_nl h_3).2 (by decide))⟩ ⟨(Int.le_trans (by decide) h_25.1), (Int.le_trans h_25.2 (by decide))⟩
    refine q_aload_n rfl rfl ?_
    refine q_iconst rfl ?_
    refine v_pi (z := 0) rfl rfl rfl (by decide) rfl rfl rfl (by decide) ?_
    refine q_aload_n rfl rfl ?_
    refine q_iload_n rfl rfl ?_
    refine v_if_lt_f (t := 29) rfl (by decide) ⟨by decide, by first | (clear ha1 h_1 h_2 h_3 h_4 h_17 h_20 h_21 h_22 h_23 h_25 h_26 h_18; omega) | omega, ha1.2⟩ ?_
    refine q_iload_n rfl rfl ?_
    refine q_aload_n rfl rfl ?_
    refine v_gi (z := 2) (v := t9) rfl rfl rfl (by decide) rfl rfl ((up_n (by decide)).trans (hr_t9)) ?_
    refine v_ic_gt_f (t := 29) rfl (by decide) ⟨ha1.1, by first | (clear ha1 h_1 h_2 h_3 h_4 h_17 h_20 h_21 h_22 h_23 h_25 h_26 h_18; omega) | omega, (Int.le_trans (rg_eq hg_t9 h_1).2 (by decide))⟩ ?_
    refine q_iload_n rfl rfl ?_
    refine v_sip rfl (by decide) ?_
    refine v_ic_gt_f (t := 29) rfl (by decide) ⟨ha1.1, by first | (clear ha1 h_1 h_2 h_3 h_4 h_17 h_20 h_21 h_22 h_23 h_25 h_26 h_18; omega) | omega, by decide⟩ ?_
    refine q_iconst rfl ?_
    refine q_goto (t := 30) rfl (by decide) ?_
    refine q_iconst rfl ?_
    refine q_iconst rfl ?_
    refine v_cv rfl rfl rfl rfl (by decide) ⟨⟨rfl, rfl⟩, by decide, rfl⟩ (Nat.le_of_ble_eq_true rfl) (Nat.le_of_ble_eq_true rfl) ?_
    refine q_iload_n rfl rfl ?_
    refine v_if_ne_t (t := 26) rfl (by decide) (by decide) ?_
    refine q_aload_n rfl rfl ?_
    refine v_gi (z := 0) (v := 0) rfl rfl rfl (by decide) rfl rfl (up_e rfl) ?_
    refine v_if_ne_f (t := 37) rfl (by decide) (by decide) ?_
    refine q_iconst rfl ?_
    refine q_goto (t := 38) rfl (by decide) ?_
    refine v_zret rfl rfl (by decide) ?_
    refine bk_inl ?_
    refine v_if_ne_t (t := 40) rfl (by decide) (by decide) ?_
    refine q_aload_n rfl rfl ?_
    refine q_iload_n rfl rfl ?_
    have hI_27 := iw_41_0 (v := 0) hI ⟨by decide, by decide⟩
    refine v_cv rfl rfl rfl rfl (by decide) ⟨⟨rfl, rfl⟩, by decide, rfl⟩ (Nat.le_of_ble_eq_true rfl) (Nat.le_of_ble_eq_true rfl) (s_163 (a1 := a1) hI_27 (show 0 ≤ a1 ∧ a1 ≤ 600 from ⟨by first | (clear ha1 h_1 h_2 h_3 h_4 h_17 h_20 h_21 h_22 h_23 h_25 h_26 h_18; omega) | omega, by first | (clear ha1 h_1 h_2 h_3 h_4 h_17 h_20 h_21 h_22 h_23 h_25 h_26 h_18; omega) | omega⟩) (fun c_28 hI_29 hF_30 h_31 => ?_))
    refine bk_inl ?_
    have h_32 := ir_41_2 hI_29
    have h_33 := ir_41_3 hI_29
    have h_34 := ir_41_4 hI_29
    have h_35 := ir_41_5 hI_29
    have h_36 := ir_41_7 hI_29
    refine q_aload_n rfl rfl ?_
    refine q_iconst rfl ?_
    refine v_pi (z := 29) rfl rfl rfl (by decide) rfl rfl rfl (by decide) ?_
    refine q_aload_n rfl rfl ?_
    have hI_37 := iw_41_29 (v := 0) hI_29 ⟨by decide, by decide⟩
    have h_38 : (up c_28 41 29 0) 41 5 = c_28 41 5 := (up_n (by decide))
    have h_39 : (up c_28 41 29 0) 41 3 = c_28 41 3 := (up_n (by decide))
    have h_40 : (up c_28 41 29 0) 41 4 = c_28 41 4 := (up_n (by decide))
    have h_41 : (up c_28 41 29 0) 41 29 = 0 := (up_e rfl)
    have h_42 : (up c_28 41 29 0) 41 7 = c_28 41 7 := (up_n (by decide))
    obtain ⟨hW_43, hN_44⟩ := nw_zero (c := up c_28 41 29 0) ((up_e rfl))
    refine v_cv rfl rfl rfl rfl (by decide) ⟨⟨rfl, rfl⟩, by decide, rfl⟩ (Nat.le_of_ble_eq_true rfl) (Nat.le_of_ble_eq_true rfl) (fn_of (r_174 (o := 0) hI_37 (show 0 ≤ 0 ∧ 0 ≤ 6 from by omega) hW_43 (by first | (clear ha1 hq0 h_1 h_2 h_3 h_4 h_17 h_20 h_21 h_22 h_23 h_25 h_26 h_32 h_33 h_34 h_36 h_18; omega) | omega) (by first | (clear ha1 hq0 h_1 h_2 h_3 h_4 h_17 h_20 h_21 h_22 h_23 h_25 h_26 h_32 h_34 h_35 h_36 h_18; omega) | omega) (by first | (clear ha1 h_1 h_2 h_3 h_4 h_17 h_20 h_21 h_22 h_23 h_25 h_26 h_32 h_33 h_34 h_35 h_36 h_18; omega) | omega) (by first | (clear ha1 hq0 h_1 h_2 h_3 h_4 h_17 h_20 h_21 h_22 h_23 h_25 h_26 h_32 h_33 h_35 h_36 h_31 h_18; omega) | omega) (by first | (clear ha1 hq0 h_1 h_2 h_3 h_4 h_17 h_20 h_21 h_22 h_23 h_25 h_26 h_32 h_33 h_34 h_35 h_18; omega) | omega) (fun c_45 hI_46 hF_47 hW_48 h_49 h_50 h_51 h_52 h_53 => ?_)))
    intro hG_58
    refine bk_inl ?_
    have h_54 := ir_41_4 hI_46
    have h_55 := ir_41_7 hI_46
    have h_56 := ir_41_29 hI_46
    have h_57 := ir_41_5 hI_46
    have hI_59 := iw_41_29 (v := 0) hI_29 ⟨by decide, by decide⟩
    have h_60 : (up (up (up (up (up (up m 1 1 y_6) 1 2 0) 1 3 0) 1 4 0) 1 5 (-1)) (P + 7) 5 0) 1 4 = 0 := ((up_c (pn hP rfl rfl)).trans ((up_n (by decide)).trans (up_e rfl)))
    have h_61 : (up (up (up (up (up (up m 1 1 y_6) 1 2 0) 1 3 0) 1 4 0) 1 5 (-1)) (P + 7) 5 0) 1 2 = 0 := ((up_c (pn hP rfl rfl)).trans ((up_n (by decide)).trans ((up_n (by decide)).trans ((up_n (by decide)).trans (up_e rfl)))))
    have h_62 : (up (up (up (up (up (up m 1 1 y_6) 1 2 0) 1 3 0) 1 4 0) 1 5 (-1)) (P + 7) 5 0) 1 5 = (-1) := ((up_c (pn hP rfl rfl)).trans (up_e rfl))
    have h_63 : (up c_28 41 29 0) 41 5 = c_28 41 5 := (up_n (by decide))
    have h_64 : (up c_28 41 29 0) 41 4 = c_28 41 4 := (up_n (by decide))
    have h_65 := ir_41_6 hI
    have kn_66 : Hid (c_28 41 6 = c 41 6) := (hF_30 41 6 (fun q => q.elim (fun h => absurd h.2 (ni rfl)) (fun q => q.elim (fun h => absurd h.2 (ni rfl)) (fun q => q.elim (fun h => absurd h.2 (ni rfl)) (fun q => q.elim (fun h => absurd h.2 (ni rfl)) (fun q => q.elim (fun h => absurd h.2 (ni rfl)) (fun h => absurd h.2 (ni rfl)))))))).trans (up_n (by decide))
    have h_67 : (up c_28 41 29 0) 41 6 = c 41 6 := ((up_n (by decide)).trans (hid kn_66))
    have hA_68 : Ce 0 ((up (up (up (up (up (up m 1 1 y_6) 1 2 0) 1 3 0) 1 4 0) 1 5 (-1)) (P + 7) 5 0) (P + 9)) ((up c_28 41 29 0) 50) ((up c_28 41 29 0) 51) := ce_z (by omega)
    have hR_69 : Rt c_13 c_45 := gh hG_58 (L_13c (c := (up c_28 41 29 0)) (m := up (up (up (up (up (up m 1 1 y_6) 1 2 0) 1 3 0) 1 4 0) 1 5 (-1)) (P + 7) 5 0) (a2 := 0) (e1 := y_6) (f0 := 0) (g0 := (-1)) (p0 := 0) (n0 := 0) (o0 := c_28 41 7) (F := F) (H := H) hI_59 hI_12 hI_14 hP (show 0 ≤ 0 ∧ 0 ≤ 6 from by omega) (by omega) (by omega) (by omega) (by omega) (by omega) (by omega) (((up_c (pn hP rfl rfl)).trans ((up_n (by decide)).trans ((up_n (by decide)).trans ((up_n (by decide)).trans ((up_n (by decide)).trans (up_e rfl))))))) (((show _ = c_28 41 3 from (up_n (by decide))).trans (by omega))) (((up_c (pn hP rfl rfl)).trans ((up_n (by decide)).trans (up_e rfl)))) (((up_c (pn hP rfl rfl)).trans (up_e rfl))) (((up_c (pn hP rfl rfl)).trans ((up_n (by decide)).trans ((up_n (by decide)).trans ((up_n (by decide)).trans (up_e rfl)))))) ((up_e rfl)) ((up_e rfl)) ((up_n (by decide))) (fun j => ((up_c (pn hP rfl rfl)).trans ((up_c (nn rfl)).trans ((up_c (nn rfl)).trans ((up_c (nn rfl)).trans ((up_c (nn rfl)).trans (up_c (nn rfl))))))).trans (hF j)) (fun j => ((up_c (nn rfl)).trans ((hF_30 43 j (fun q => q.elim (fun h => absurd h.1 (nn rfl)) (fun q => q.elim (fun h => absurd h.1 (nn rfl)) (fun q => q.elim (fun h => absurd h.1 (nn rfl)) (fun q => q.elim (fun h => absurd h.1 (nn rfl)) (fun q => q.elim (fun h => absurd h.1 (nn rfl)) (fun h => absurd h.1 (nn rfl)))))))).trans (up_c (nn rfl)))).trans (hH j)) hU (rt_i1 ⟨by first | (clear ha1 hq0 h_1 h_2 h_3 h_4 h_17 h_20 h_21 h_22 h_23 h_25 h_26 h_32 h_33 h_34 h_35 h_36 h_31 h_65 h_18; omega) | omega, by first | (clear ha1 hq0 h_1 h_2 h_3 h_4 h_17 h_20 h_21 h_22 h_23 h_25 h_26 h_32 h_33 h_34 h_36 h_65 h_18; omega) | omega, by first | (clear ha1 hq0 h_1 h_2 h_3 h_4 h_17 h_20 h_21 h_22 h_23 h_25 h_26 h_32 h_33 h_35 h_36 h_65 h_18; omega) | omega, by first | (clear ha1 hq0 h_1 h_2 h_3 h_4 h_17 h_20 h_21 h_22 h_23 h_25 h_26 h_32 h_33 h_34 h_35 h_36 h_31 h_65 h_18; omega) | omega⟩) (ce_le hA_68 (by omega)) hG_16 (fun c8 hI8 hF8 hR8 h_70 h_71 h_72 => fun e8 => rt_wd hR8 (Prod.mk.inj (Prod.mk.inj e8).2).1 hI8 hI_46))
    have hQ_73 : c_13 1 4 = 0 → c_13 (P + 7) 5 = c_45 41 29 ∧ Ce (c_45 41 29) (c_13 (P + 9)) (c_45 50) (c_45 51) := gh hG_58 (L_13c (c := (up c_28 41 29 0)) (m := up (up (up (up (up (up m 1 1 y_6) 1 2 0) 1 3 0) 1 4 0) 1 5 (-1)) (P + 7) 5 0) (a2 := 0) (e1 := y_6) (f0 := 0) (g0 := (-1)) (p0 := 0) (n0 := 0) (o0 := c_28 41 7) (F := F) (H := H) hI_59 hI_12 hI_14 hP (show 0 ≤ 0 ∧ 0 ≤ 6 from by omega) (by omega) (by omega) (by omega) (by omega) (by omega) (by omega) (((up_c (pn hP rfl rfl)).trans ((up_n (by decide)).trans ((up_n (by decide)).trans ((up_n (by decide)).trans ((up_n (by decide)).trans (up_e rfl))))))) (((show _ = c_28 41 3 from (up_n (by decide))).trans (by omega))) (((up_c (pn hP rfl rfl)).trans ((up_n (by decide)).trans (up_e rfl)))) (((up_c (pn hP rfl rfl)).trans (up_e rfl))) (((up_c (pn hP rfl rfl)).trans ((up_n (by decide)).trans ((up_n (by decide)).trans ((up_n (by decide)).trans (up_e rfl)))))) ((up_e rfl)) ((up_e rfl)) ((up_n (by decide))) (fun j => ((up_c (pn hP rfl rfl)).trans ((up_c (nn rfl)).trans ((up_c (nn rfl)).trans ((up_c (nn rfl)).trans ((up_c (nn rfl)).trans (up_c (nn rfl))))))).trans (hF j)) (fun j => ((up_c (nn rfl)).trans ((hF_30 43 j (fun q => q.elim (fun h => absurd h.1 (nn rfl)) (fun q => q.elim (fun h => absurd h.1 (nn rfl)) (fun q => q.elim (fun h => absurd h.1 (nn rfl)) (fun q => q.elim (fun h => absurd h.1 (nn rfl)) (fun q => q.elim (fun h => absurd h.1 (nn rfl)) (fun h => absurd h.1 (nn rfl)))))))).trans (up_c (nn rfl)))).trans (hH j)) hU (rt_i1 ⟨by first | (clear ha1 hq0 h_1 h_2 h_3 h_4 h_17 h_20 h_21 h_22 h_23 h_25 h_26 h_32 h_33 h_34 h_35 h_36 h_31 h_65 h_18; omega) | omega, by first | (clear ha1 hq0 h_1 h_2 h_3 h_4 h_17 h_20 h_21 h_22 h_23 h_25 h_26 h_32 h_33 h_34 h_36 h_65 h_18; omega) | omega, by first | (clear ha1 hq0 h_1 h_2 h_3 h_4 h_17 h_20 h_21 h_22 h_23 h_25 h_26 h_32 h_33 h_35 h_36 h_65 h_18; omega) | omega, by first | (clear ha1 hq0 h_1 h_2 h_3 h_4 h_17 h_20 h_21 h_22 h_23 h_25 h_26 h_32 h_33 h_34 h_35 h_36 h_31 h_65 h_18; omega) | omega⟩) (ce_le hA_68 (by omega)) hG_16 (fun c8 hI8 hF8 hR8 h_70 h_71 h_72 => fun e8 h0 => ce_wd (h_72 h0) (by omega) (Prod.mk.inj (Prod.mk.inj e8).2).1 hI8 hI_46))
    have h_74 : c_13 1 4 = 0 → c_13 (P + 7) 5 = c_45 41 29 := fun h0 => (hQ_73 h0).1
    have hA_75 : c_13 1 4 = 0 → Ce (c_45 41 29) (c_13 (P + 9)) (c_45 50) (c_45 51) := fun h0 => (hQ_73 h0).2
    have h_76 := ir_p7_5 hI_14 hP
    refine q_aload_n rfl rfl ?_
    refine v_cv rfl rfl rfl rfl (by decide) ⟨⟨rfl, rfl⟩, by decide, rfl⟩ (Nat.le_of_ble_eq_true rfl) (Nat.le_of_ble_eq_true rfl) ?_
    refine q_aload_n rfl rfl ?_
    have h_77 := ir_1_2 hI_14
    have h_78 := ir_41_6 hI_46
    have h_79 := rt_bad hR_69 (by omega)
    have hrb_hR_69 := rt_bad hR_69 (by omega)
    refine v_gi (z := 5) (v := c_13 1 5) rfl rfl rfl (by decide) rfl rfl hrb_hR_69.2.1 ?_
    refine q_iconst rfl ?_
    refine v_ic_ne_t (t := 12) rfl (by decide) ⟨by first | (clear ha1 hq0 h_1 h_2 h_3 h_4 h_17 h_20 h_21 h_22 h_23 h_25 h_26 h_32 h_33 h_34 h_35 h_36 h_31 h_54 h_49 h_55 h_50 h_56 h_51 h_57 h_76 h_77 h_78 h_18 h_52 h_53; omega) | omega, ⟨(Int.le_trans (by decide) h_21.1), (Int.le_trans h_21.2 (by decide))⟩, by decide, by decide⟩ ?_
    refine q_iconst rfl ?_
    refine v_zret rfl rfl (by decide) ?_
    refine bk_inl ?_
    refine v_if_eq_t (t := 77) rfl (by decide) (by decide) ?_
    refine q_aload_n rfl rfl ?_
    refine q_iconst rfl ?_
    refine v_cv rfl rfl rfl rfl (by decide) ⟨⟨rfl, rfl⟩, by decide, rfl⟩ (Nat.le_of_ble_eq_true rfl) (Nat.le_of_ble_eq_true rfl) ?_
    refine q_aload_n rfl rfl ?_
    refine q_aload_n rfl rfl ?_
    refine v_gi (z := 5) (v := c_13 1 5) rfl rfl rfl (by decide) rfl rfl hrb_hR_69.2.1 ?_
    refine v_pi (z := 8) rfl rfl rfl (by decide) rfl rfl rfl (by decide) ?_
    refine q_aload_n rfl rfl ?_
    refine v_cv rfl rfl rfl rfl (by decide) ⟨⟨rfl, rfl⟩, by decide, rfl⟩ (Nat.le_of_ble_eq_true rfl) (Nat.le_of_ble_eq_true rfl) ?_
    refine q_aload_n rfl rfl ?_
    refine v_gi (z := 5) (v := c_13 1 5) rfl rfl rfl (by decide) rfl rfl (((up_n (by decide))).trans (hrb_hR_69.2.1)) ?_
    refine q_iconst rfl ?_
    refine v_ic_ne_t (t := 12) rfl (by decide) ⟨by first | (clear ha1 hq0 h_1 h_2 h_3 h_4 h_17 h_20 h_21 h_22 h_23 h_25 h_26 h_32 h_33 h_34 h_35 h_36 h_31 h_54 h_49 h_55 h_50 h_56 h_51 h_57 h_76 h_77 h_78 h_18 h_52 h_53; omega) | omega, ⟨(Int.le_trans (by decide) h_21.1), (Int.le_trans h_21.2 (by decide))⟩, by decide, by decide⟩ ?_
    refine q_iconst rfl ?_
    refine v_zret rfl rfl (by decide) ?_
    refine bk_inl ?_
    refine v_if_eq_t (t := 19) rfl (by decide) (by decide) ?_
    refine q_aload_n rfl rfl ?_
    refine v_gi (z := 6) (v := c_13 1 4) rfl rfl rfl (by decide) rfl rfl (((up_n (by decide))).trans (hrb_hR_69.2.2.2)) ?_
    refine v_bip rfl (by decide) ?_
    refine v_isub (v := c_13 1 4 - 10) rfl rfl ?_
    refine q_iret rfl rfl ?_
    refine bk_inl ?_
    refine q_istore_n rfl (by decide) ?_
    refine q_aload_n rfl rfl ?_
    refine v_gi (z := 5) (v := c_13 1 5) rfl rfl rfl (by decide) rfl rfl (((up_n (by decide))).trans (hrb_hR_69.2.1)) ?_
    refine q_iconst rfl ?_
    refine v_ic_eq_f (t := 93) rfl (by decide) ⟨by first | (clear ha1 hq0 h_1 h_2 h_3 h_4 h_17 h_20 h_21 h_22 h_23 h_25 h_26 h_32 h_33 h_34 h_35 h_36 h_31 h_54 h_49 h_55 h_50 h_56 h_51 h_57 h_76 h_77 h_78 h_18 h_52 h_53; omega) | omega, ⟨(Int.le_trans (by decide) h_21.1), (Int.le_trans h_21.2 (by decide))⟩, by decide, by decide⟩ ?_
    refine q_iload_n rfl rfl ?_
    refine q_iret rfl rfl ?_
    have hI_80 := iw_41_8 (v := c_13 1 5) hI_46 ⟨h_21.1, (Int.le_trans h_21.2 (by decide))⟩
    have kn_81 : Hid (c_45 41 2 = c_28 41 2) := (hF_47 41 2 (fun q => q.elim (fun h => absurd h.2 (ni rfl)) (fun q => q.elim (fun h => absurd h.2 (ni rfl)) (fun q => q.elim (fun h => absurd h.2 (ni rfl)) (fun q => q.elim (fun h => absurd h.2 (ni rfl)) (fun q => q.elim (fun h => absurd h.2 (ni rfl)) (fun q => q.elim (fun h => absurd h (nn rfl)) (fun h => absurd h (nn rfl))))))))).trans (up_n (by decide))
    have h_82 : (up c_45 41 8 (c_13 1 5)) 41 2 = c_28 41 2 := ((up_n (by decide)).trans (hid kn_81))
    have h_83 : (up c_45 41 8 (c_13 1 5)) 41 8 = c_13 1 5 := (up_e rfl)
    have kn_84 : Hid (c_28 41 0 = 0) := (hF_30 41 0 (fun q => q.elim (fun h => absurd h.2 (ni rfl)) (fun q => q.elim (fun h => absurd h.2 (ni rfl)) (fun q => q.elim (fun h => absurd h.2 (ni rfl)) (fun q => q.elim (fun h => absurd h.2 (ni rfl)) (fun q => q.elim (fun h => absurd h.2 (ni rfl)) (fun h => absurd h.2 (ni rfl)))))))).trans (up_e rfl)
    have kn_85 : Hid (c_45 41 0 = 0) := (hF_47 41 0 (fun q => q.elim (fun h => absurd h.2 (ni rfl)) (fun q => q.elim (fun h => absurd h.2 (ni rfl)) (fun q => q.elim (fun h => absurd h.2 (ni rfl)) (fun q => q.elim (fun h => absurd h.2 (ni rfl)) (fun q => q.elim (fun h => absurd h.2 (ni rfl)) (fun q => q.elim (fun h => absurd h (nn rfl)) (fun h => absurd h (nn rfl))))))))).trans ((up_n (by decide)).trans (hid kn_84))
    have h_86 : (up c_45 41 8 (c_13 1 5)) 41 0 = 0 := ((up_n (by decide)).trans (hid kn_85))
    have kn_87 : Hid (c_28 41 30 = nl) := (hF_30 41 30 (fun q => q.elim (fun h => absurd h.2 (ni rfl)) (fun q => q.elim (fun h => absurd h.2 (ni rfl)) (fun q => q.elim (fun h => absurd h.2 (ni rfl)) (fun q => q.elim (fun h => absurd h.2 (ni rfl)) (fun q => q.elim (fun h => absurd h.2 (ni rfl)) (fun h => absurd h.2 (ni rfl)))))))).trans ((up_n (by decide)).trans (hr_nl))
    have kn_88 : Hid (c_45 41 30 = nl) := (hF_47 41 30 (fun q => q.elim (fun h => absurd h.2 (ni rfl)) (fun q => q.elim (fun h => absurd h.2 (ni rfl)) (fun q => q.elim (fun h => absurd h.2 (ni rfl)) (fun q => q.elim (fun h => absurd h.2 (ni rfl)) (fun q => q.elim (fun h => absurd h.2 (ni rfl)) (fun q => q.elim (fun h => absurd h (nn rfl)) (fun h => absurd h (nn rfl))))))))).trans ((up_n (by decide)).trans (hid kn_87))
    have h_89 : (up c_45 41 8 (c_13 1 5)) 41 30 = nl := ((up_n (by decide)).trans (hid kn_88))
    have h_90 : (up c_45 41 8 (c_13 1 5)) 41 30 = nl := ((up_n (by decide)).trans (hid kn_88))
    have hA_91 : Ce nl (c_13 (P + 8)) ((up c_45 41 8 (c_13 1 5)) 52) ((up c_45 41 8 (c_13 1 5)) 53) := ce_fr hr0 (fun j => (hF_15 (P + 8) j (fun q => q.elim (fun h => absurd h.1 (np hP rfl rfl)) (fun q => q.elim (fun h => absurd h.1 (np hP rfl rfl)) (fun q => q.elim (fun h => absurd h.1 (np hP rfl rfl)) (fun q => q.elim (fun h => absurd h.1 (pp rfl)) (fun h => absurd h (pp rfl))))))).trans ((up_c (pp rfl)).trans ((up_c (np hP rfl rfl)).trans ((up_c (np hP rfl rfl)).trans ((up_c (np hP rfl rfl)).trans ((up_c (np hP rfl rfl)).trans (up_c (np hP rfl rfl)))))))) (fun j => (up_c (nn rfl)).trans ((hF_47 52 j (fun q => q.elim (fun h => absurd h.1 (nn rfl)) (fun q => q.elim (fun h => absurd h.1 (nn rfl)) (fun q => q.elim (fun h => absurd h.1 (nn rfl)) (fun q => q.elim (fun h => absurd h.1 (nn rfl)) (fun q => q.elim (fun h => absurd h.1 (nn rfl)) (fun q => q.elim (fun h => absurd h (nn rfl)) (fun h => absurd h (nn rfl))))))))).trans ((up_c (nn rfl)).trans ((hF_30 52 j (fun q => q.elim (fun h => absurd h.1 (nn rfl)) (fun q => q.elim (fun h => absurd h.1 (nn rfl)) (fun q => q.elim (fun h => absurd h.1 (nn rfl)) (fun q => q.elim (fun h => absurd h.1 (nn rfl)) (fun q => q.elim (fun h => absurd h.1 (nn rfl)) (fun h => absurd h.1 (nn rfl)))))))).trans (up_c (nn rfl)))))) (fun j => (up_c (nn rfl)).trans ((hF_47 53 j (fun q => q.elim (fun h => absurd h.1 (nn rfl)) (fun q => q.elim (fun h => absurd h.1 (nn rfl)) (fun q => q.elim (fun h => absurd h.1 (nn rfl)) (fun q => q.elim (fun h => absurd h.1 (nn rfl)) (fun q => q.elim (fun h => absurd h.1 (nn rfl)) (fun q => q.elim (fun h => absurd h (nn rfl)) (fun h => absurd h (nn rfl))))))))).trans ((up_c (nn rfl)).trans ((hF_30 53 j (fun q => q.elim (fun h => absurd h.1 (nn rfl)) (fun q => q.elim (fun h => absurd h.1 (nn rfl)) (fun q => q.elim (fun h => absurd h.1 (nn rfl)) (fun q => q.elim (fun h => absurd h.1 (nn rfl)) (fun q => q.elim (fun h => absurd h.1 (nn rfl)) (fun h => absurd h.1 (nn rfl)))))))).trans (up_c (nn rfl))))))
    have hA_92 : Ce nl (m9 (P + 8)) ((up c_45 41 8 (c_13 1 5)) 52) ((up c_45 41 8 (c_13 1 5)) 53) := ce_l hA_91 (fun j h1 h2 => wd_av hW (ck_p8 hP) (ck_p8 hP) (by decide) (a68 hP rfl) ⟨h1, by omega⟩ rfl (ir_p8 hI_14 hP j) (ir_p8 hJ9 hP j))
    exact K (up c_45 41 8 (c_13 1 5)) (c_13 1 4 - 10) hI_80 (fun a j hm => (up_b (Decidable.or_iff_not_imp_left.mpr (fun h1 h2 => hm (Or.inr (Or.inr (Or.inr (Or.inr (Or.inr (Or.inr (Or.inr (Or.inr (Or.inl ⟨Decidable.not_not.mp h1, h2⟩)))))))))))).trans ((hF_47 a j (fun q => q.elim (fun h => hm (Or.inr (Or.inr (Or.inr (Or.inr (Or.inl h)))))) (fun q => q.elim (fun h => hm (Or.inr (Or.inr (Or.inr (Or.inr (Or.inr (Or.inl h))))))) (fun q => q.elim (fun h => hm (Or.inr (Or.inr (Or.inr (Or.inr (Or.inr (Or.inr (Or.inl h)))))))) (fun q => q.elim (fun h => hm (Or.inr (Or.inr (Or.inr (Or.inr (Or.inr (Or.inr (Or.inr (Or.inl h))))))))) (fun q => q.elim (fun h => hm (Or.inr (Or.inr (Or.inr (Or.inr (Or.inr (Or.inr (Or.inr (Or.inr (Or.inr (Or.inl h))))))))))) (fun q => q.elim (fun h => hm (Or.inr (Or.inr (Or.inr (Or.inr (Or.inr (Or.inr (Or.inr (Or.inr (Or.inr (Or.inr (Or.inr (Or.inl h))))))))))))) (fun h => hm (Or.inr (Or.inr (Or.inr (Or.inr (Or.inr (Or.inr (Or.inr (Or.inr (Or.inr (Or.inr (Or.inr (Or.inr (Or.inl h))))))))))))))))))))).trans ((up_b (Decidable.or_iff_not_imp_left.mpr (fun h1 h2 => hm (Or.inr (Or.inr (Or.inr (Or.inr (Or.inr (Or.inr (Or.inr (Or.inr (Or.inr (Or.inl ⟨Decidable.not_not.mp h1, h2⟩))))))))))))).trans ((hF_30 a j (fun q => q.elim (fun h => hm (Or.inr (Or.inr (Or.inl h)))) (fun q => q.elim (fun h => hm (Or.inr (Or.inr (Or.inr (Or.inl h))))) (fun q => q.elim (fun h => hm (Or.inr (Or.inr (Or.inr (Or.inr (Or.inl h)))))) (fun q => q.elim (fun h => hm (Or.inr (Or.inr (Or.inr (Or.inr (Or.inr (Or.inl h))))))) (fun q => q.elim (fun h => hm (Or.inr (Or.inr (Or.inr (Or.inr (Or.inr (Or.inr (Or.inr (Or.inl h))))))))) (fun h => hm (Or.inr (Or.inr (Or.inr (Or.inr (Or.inr (Or.inr (Or.inr (Or.inr (Or.inl h)))))))))))))))).trans (up_b (Decidable.or_iff_not_imp_left.mpr (fun h1 h2 => hm (Or.inl ⟨Decidable.not_not.mp h1, h2⟩)))))))) ⟨by omega, by omega⟩ (by first | (clear ha1 hq0 h_1 h_2 h_3 h_4 h_17 h_21 h_22 h_23 h_25 h_26 h_32 h_33 h_34 h_35 h_36 h_31 h_54 h_49 h_55 h_50 h_56 h_51 h_57 h_76 h_77 h_78 h_79 h_18 h_52 h_53; omega) | omega) (by first | (clear ha1 hq0 h_1 h_2 h_3 h_4 h_17 h_20 h_21 h_22 h_23 h_25 h_26 h_33 h_34 h_35 h_36 h_54 h_49 h_55 h_50 h_56 h_51 h_57 h_76 h_77 h_78 h_79 h_18 h_52 h_53; omega) | omega) (by first | (clear ha1 hq0 h_1 h_2 h_3 h_4 h_17 h_20 h_21 h_22 h_25 h_26 h_32 h_33 h_34 h_35 h_36 h_31 h_54 h_49 h_55 h_50 h_56 h_51 h_57 h_76 h_77 h_78 h_79 h_18 h_52 h_53; omega) | omega) (by first | (clear ha1 hq0 h_1 h_2 h_3 h_4 h_17 h_20 h_21 h_22 h_23 h_25 h_26 h_32 h_33 h_34 h_35 h_36 h_31 h_54 h_49 h_55 h_50 h_56 h_51 h_57 h_76 h_77 h_78 h_79 h_18 h_52 h_53; omega) | omega) (by first | (clear ha1 hq0 h_1 h_2 h_3 h_4 h_17 h_20 h_21 h_22 h_23 h_25 h_32 h_33 h_34 h_35 h_36 h_31 h_54 h_49 h_55 h_50 h_56 h_51 h_57 h_76 h_77 h_78 h_79 h_18 h_52 h_53; omega) | omega) (ce_le hA_92 (by omega))
  · refine v_if_ne_f (t := 11) rfl (by decide) (Decidable.not_not.mp h_18) ?_
    refine q_iconst rfl ?_
    refine q_goto (t := 12) rfl (by decide) ?_
    refine v_zret rfl rfl (by decide) ?_
    refine bk_inl ?_
    refine v_if_eq_f (t := 22) rfl (by decide) (by decide) ?_
    refine q_aload_n rfl rfl ?_
    have kn_93 : Hid (c_13 1 1 = y_6) := (hF_15 1 1 (fun q => q.elim (fun h => absurd h.2 (ni rfl)) (fun q => q.elim (fun h => absurd h.2 (ni rfl)) (fun q => q.elim (fun h => absurd h.2 (ni rfl)) (fun q => q.elim (fun h => absurd h.1 (pn hP rfl rfl)) (fun h => absurd h (pn hP rfl rfl))))))).trans ((up_c (pn hP rfl rfl)).trans ((up_n (by decide)).trans ((up_n (by decide)).trans ((up_n (by decide)).trans ((up_n (by decide)).trans (up_e rfl))))))
    have h_94 := ir_1_2 hI_14
    have h_95 : -2147483648 ≤ (F (c_13 1 2)) ∧ (F (c_13 1 2)) ≤ 2147483647 := by rw [← hF (c_13 1 2)]; exact ir_2 hJ (c_13 1 2)
    have h_96 := nx_bd (b := F) (e := y_6) (a := c_13 1 2)
    have h_97 : -2147483648 ≤ (F (nx F y_6 (c_13 1 2))) ∧ (F (nx F y_6 (c_13 1 2))) ≤ 2147483647 := by rw [← hF (nx F y_6 (c_13 1 2))]; exact ir_2 hJ (nx F y_6 (c_13 1 2))
    have h_98 := nx_n (b := F) (e := y_6) (a := c_13 1 2)
    refine v_cv rfl rfl rfl rfl (by decide) ⟨⟨rfl, rfl⟩, by decide, rfl⟩ (Nat.le_of_ble_eq_true rfl) (Nat.le_of_ble_eq_true rfl) (f_3 (e1 := y_6) (a9 := c_13 1 2) (B := F) (r8 := (nx F y_6 (c_13 1 2))) hI_14 ((hid kn_93)) (rfl) (fun j => ((hF_15 2 j (fun q => q.elim (fun h => absurd h.1 (nn rfl)) (fun q => q.elim (fun h => absurd h.1 (nn rfl)) (fun q => q.elim (fun h => absurd h.1 (nn rfl)) (fun q => q.elim (fun h => absurd h.1 (pn hP rfl rfl)) (fun h => absurd h (pn hP rfl rfl))))))).trans ((up_c (pn hP rfl rfl)).trans ((up_c (nn rfl)).trans ((up_c (nn rfl)).trans ((up_c (nn rfl)).trans ((up_c (nn rfl)).trans (up_c (nn rfl)))))))).trans (hF j)) rfl (fun c_99 hI_100 hF_101 hz_102 => ?_))
    refine bk_inl ?_
    refine q_aload_n rfl rfl ?_
    have kn_103 : Hid (c_99 1 1 = y_6) := (hF_101 1 1 (fun h => absurd h.2 (ni rfl))).trans (hid kn_93)
    refine v_gi (z := 1) (v := y_6) rfl rfl rfl (by decide) rfl rfl (hid kn_103) ?_
    by_cases h_104 : (nx F y_6 (c_13 1 2)) ≥ y_6
    · refine v_ic_ge_t (t := 22) rfl (by decide) ⟨by omega, h_104, by omega⟩ ?_
      refine q_iconst rfl ?_
      refine v_zret rfl rfl (by decide) ?_
      refine bk_inl ?_
      refine v_if_eq_t (t := 16) rfl (by decide) (by decide) ?_
      refine q_vret rfl rfl ?_
      refine bk_inl ?_
      refine q_aload_n rfl rfl ?_
      refine v_cv rfl rfl rfl rfl (by decide) ⟨⟨rfl, rfl⟩, by decide, rfl⟩ (Nat.le_of_ble_eq_true rfl) (Nat.le_of_ble_eq_true rfl) ?_
      refine q_aload_n rfl rfl ?_
      have kn_105 : Hid (c_99 1 4 = c_13 1 4) := hF_101 1 4 (fun h => absurd h.2 (ni rfl))
      refine v_gi (z := 4) (v := c_13 1 4) rfl rfl rfl (by decide) rfl rfl (hid kn_105) ?_
      refine v_if_ne_f (t := 11) rfl (by decide) (by omega) ?_
      refine q_iconst rfl ?_
      refine q_goto (t := 12) rfl (by decide) ?_
      refine v_zret rfl rfl (by decide) ?_
      refine bk_inl ?_
      refine v_if_eq_f (t := 46) rfl (by decide) (by decide) ?_
      refine q_aload_n rfl rfl ?_
      refine v_gr (t := (P + 9)) rfl rfl (ck_p7 hP) (a68 hP rfl) rfl ?_
      refine q_iconst rfl ?_
      refine q_aload_n rfl rfl ?_
      refine v_gr (t := (P + 8)) rfl rfl (ck_p7 hP) (a68 hP rfl) rfl ?_
      refine q_iconst rfl ?_
      refine v_sip rfl (by decide) ?_
      refine v_cpy rfl rfl (ck_p8 hP) (a68 hP rfl) (ck_p9 hP) (a68 hP rfl) rfl rfl (by omega) (Nat.le_of_ble_eq_true rfl) (by omega) ?_
      refine q_aload_n rfl rfl ?_
      refine q_aload_n rfl rfl ?_
      have h_106 := ir_p7_5 hI_14 hP
      have kn_107 : Hid (c_99 (P + 7) 5 = c_13 (P + 7) 5) := hF_101 (P + 7) 5 (fun h => absurd h.1 (np hP rfl rfl))
      refine v_gi (z := 5) (v := c_13 (P + 7) 5) rfl rfl (ck_p7 hP) (a68 hP rfl) rfl rfl ((upc_c (by omega)).trans (hid kn_107)) ?_
      refine v_pi (z := 4) rfl rfl (ck_p7 hP) (a68 hP rfl) rfl rfl rfl (by decide) ?_
      refine q_vret rfl rfl ?_
      refine bk_inl ?_
      refine q_aload_n rfl rfl ?_
      refine q_iconst rfl ?_
      refine v_cv rfl rfl rfl rfl (by decide) ⟨⟨rfl, rfl⟩, by decide, rfl⟩ (Nat.le_of_ble_eq_true rfl) (Nat.le_of_ble_eq_true rfl) ?_
      refine q_aload_n rfl rfl ?_
      refine v_gr (t := 1) rfl rfl rfl (by decide) rfl ?_
      refine v_cv rfl rfl rfl rfl (by decide) ⟨⟨rfl, rfl⟩, by decide, rfl⟩ (Nat.le_of_ble_eq_true rfl) (Nat.le_of_ble_eq_true rfl) ?_
      refine q_aload_n rfl rfl ?_
      refine v_gi (z := 4) (v := c_13 1 4) rfl rfl rfl (by decide) rfl rfl ((up_c (pn hP rfl rfl)).trans ((upc_c (by omega)).trans (hid kn_105))) ?_
      refine v_if_ne_f (t := 11) rfl (by decide) (by first | (clear ha1 hq0 h_1 h_2 h_3 h_4 h_94 h_95 h_96 h_97 h_104 h_106 h_98; omega) | omega) ?_
      refine q_iconst rfl ?_
      refine q_goto (t := 12) rfl (by decide) ?_
      refine v_zret rfl rfl (by decide) ?_
      refine bk_inl ?_
      refine v_if_eq_f (t := 14) rfl (by decide) (by decide) ?_
      refine q_iload_n rfl rfl ?_
      refine q_goto (t := 24) rfl (by decide) ?_
      refine q_iret rfl rfl ?_
      refine bk_inl ?_
      refine q_iret rfl rfl ?_
      have hI_108 := cp_p9_p8 (n := 150) hI_100 hP
      have hI_109 := iw_p7_4 (v := c_13 (P + 7) 5) hI_108 hP ⟨by first | (clear ha1 hq0 h_1 h_2 h_3 h_4 h_17 h_94 h_95 h_96 h_97 h_104 h_98; omega) | omega, by first | (clear ha1 hq0 h_1 h_2 h_3 h_4 h_17 h_94 h_95 h_96 h_97 h_104 h_98; omega) | omega⟩
      intro hE_110
      have h_111 : yg = 1 := (vi_inj ⟨by omega, by omega⟩ ⟨by omega, by omega⟩ (Option.some.inj (Sum.inl.inj (Prod.mk.inj hE_110).1))).symm
      have hW : Wd P Q P P (up (upc c_99 (P + 9) 0 (P + 8) 0 150) (P + 7) 4 (c_13 (P + 7) 5)) = Wd P Q P P m9 := (Prod.mk.inj (Prod.mk.inj hE_110).2).1
      have h_112 := ir_1_5 hI_14
      have kn_113 : Hid (c_99 1 5 = c_13 1 5) := hF_101 1 5 (fun h => absurd h.2 (ni rfl))
      have h_114 := ir_1_5 hJ9
      have h_115 : m9 1 5 = c_13 1 5 := wd_fv (z := 5) 5 rfl hW rfl rfl rfl rfl (by decide) ((up_c (pn hP rfl rfl)).trans ((upc_c (by omega)).trans (hid kn_113))) ⟨by first | (clear ha1 hq0 h_1 h_2 h_3 h_4 h_17 h_94 h_95 h_96 h_97 h_104 h_106 h_111 h_114 h_98; omega) | omega, by first | (clear ha1 hq0 h_1 h_2 h_3 h_4 h_17 h_94 h_95 h_96 h_97 h_104 h_106 h_111 h_114 h_98; omega) | omega⟩ ⟨(Int.le_trans (by decide) h_114.1), (Int.le_trans h_114.2 (by decide))⟩
      have h_116 := ir_p7_4 hJ9 hP
      have h_117 : m9 (P + 7) 4 = c_13 (P + 7) 5 := wd_fv (z := 4) 4 rfl hW (ck_p7 hP) (ck_p7 hP) rfl rfl (by omega) (up_e rfl) ⟨by first | (clear ha1 hq0 h_1 h_2 h_3 h_4 h_17 h_94 h_95 h_96 h_97 h_104 h_111 h_112 h_114 h_115 h_116 h_98; omega) | omega, by first | (clear ha1 hq0 h_1 h_2 h_3 h_4 h_17 h_94 h_95 h_96 h_97 h_104 h_111 h_112 h_114 h_115 h_116 h_98; omega) | omega⟩ ⟨(Int.le_trans (by decide) h_116.1), (Int.le_trans h_116.2 (by decide))⟩
      refine q_aload_n rfl rfl ?_
      refine q_iconst rfl ?_
      refine v_pi (z := 0) rfl rfl rfl (by decide) rfl rfl rfl (by decide) ?_
      refine q_aload_n rfl rfl ?_
      refine q_iload_n rfl rfl ?_
      refine v_if_lt_f (t := 29) rfl (by decide) ⟨by decide, by first | (clear ha1 h_1 h_2 h_3 h_4 h_17 h_94 h_95 h_96 h_97 h_104 h_106 h_111 h_112 h_114 h_115 h_116 h_117 h_98; omega) | omega, ha1.2⟩ ?_
      refine q_iload_n rfl rfl ?_
      refine q_aload_n rfl rfl ?_
      refine v_gi (z := 2) (v := t9) rfl rfl rfl (by decide) rfl rfl ((up_n (by decide)).trans (hr_t9)) ?_
      refine v_ic_gt_f (t := 29) rfl (by decide) ⟨ha1.1, by first | (clear ha1 h_1 h_2 h_3 h_4 h_17 h_94 h_95 h_96 h_97 h_104 h_106 h_111 h_112 h_114 h_115 h_116 h_117 h_98; omega) | omega, (Int.le_trans (rg_eq hg_t9 h_1).2 (by decide))⟩ ?_
      refine q_iload_n rfl rfl ?_
      refine v_sip rfl (by decide) ?_
      refine v_ic_gt_f (t := 29) rfl (by decide) ⟨ha1.1, by first | (clear ha1 h_1 h_2 h_3 h_4 h_17 h_94 h_95 h_96 h_97 h_104 h_106 h_111 h_112 h_114 h_115 h_116 h_117 h_98; omega) | omega, by decide⟩ ?_
      refine q_iconst rfl ?_
      refine q_goto (t := 30) rfl (by decide) ?_
      refine q_iconst rfl ?_
      refine q_iconst rfl ?_
      refine v_cv rfl rfl rfl rfl (by decide) ⟨⟨rfl, rfl⟩, by decide, rfl⟩ (Nat.le_of_ble_eq_true rfl) (Nat.le_of_ble_eq_true rfl) ?_
      refine q_iload_n rfl rfl ?_
      refine v_if_ne_t (t := 26) rfl (by decide) (by decide) ?_
      refine q_aload_n rfl rfl ?_
      refine v_gi (z := 0) (v := 0) rfl rfl rfl (by decide) rfl rfl (up_e rfl) ?_
      refine v_if_ne_f (t := 37) rfl (by decide) (by decide) ?_
      refine q_iconst rfl ?_
      refine q_goto (t := 38) rfl (by decide) ?_
      refine v_zret rfl rfl (by decide) ?_
      refine bk_inl ?_
      refine v_if_ne_t (t := 40) rfl (by decide) (by decide) ?_
      refine q_aload_n rfl rfl ?_
      refine q_iload_n rfl rfl ?_
      have hI_118 := iw_41_0 (v := 0) hI ⟨by decide, by decide⟩
      refine v_cv rfl rfl rfl rfl (by decide) ⟨⟨rfl, rfl⟩, by decide, rfl⟩ (Nat.le_of_ble_eq_true rfl) (Nat.le_of_ble_eq_true rfl) (s_163 (a1 := a1) hI_118 (show 0 ≤ a1 ∧ a1 ≤ 600 from ⟨by first | (clear ha1 h_1 h_2 h_3 h_4 h_17 h_94 h_95 h_96 h_97 h_104 h_106 h_111 h_112 h_114 h_115 h_116 h_117 h_98; omega) | omega, by first | (clear ha1 h_1 h_2 h_3 h_4 h_17 h_94 h_95 h_96 h_97 h_104 h_106 h_111 h_112 h_114 h_115 h_116 h_117 h_98; omega) | omega⟩) (fun c_119 hI_120 hF_121 h_122 => ?_))
      refine bk_inl ?_
      have h_123 := ir_41_2 hI_120
      have h_124 := ir_41_3 hI_120
      have h_125 := ir_41_4 hI_120
      have h_126 := ir_41_5 hI_120
      have h_127 := ir_41_7 hI_120
      refine q_aload_n rfl rfl ?_
      refine q_iconst rfl ?_
      refine v_pi (z := 29) rfl rfl rfl (by decide) rfl rfl rfl (by decide) ?_
      refine q_aload_n rfl rfl ?_
      have hI_128 := iw_41_29 (v := 0) hI_120 ⟨by decide, by decide⟩
      have h_129 : (up c_119 41 29 0) 41 5 = c_119 41 5 := (up_n (by decide))
      have h_130 : (up c_119 41 29 0) 41 3 = c_119 41 3 := (up_n (by decide))
      have h_131 : (up c_119 41 29 0) 41 4 = c_119 41 4 := (up_n (by decide))
      have h_132 : (up c_119 41 29 0) 41 29 = 0 := (up_e rfl)
      have h_133 : (up c_119 41 29 0) 41 7 = c_119 41 7 := (up_n (by decide))
      obtain ⟨hW_134, hN_135⟩ := nw_zero (c := up c_119 41 29 0) ((up_e rfl))
      refine v_cv rfl rfl rfl rfl (by decide) ⟨⟨rfl, rfl⟩, by decide, rfl⟩ (Nat.le_of_ble_eq_true rfl) (Nat.le_of_ble_eq_true rfl) (fn_of (r_174 (o := 0) hI_128 (show 0 ≤ 0 ∧ 0 ≤ 6 from by omega) hW_134 (by first | (clear ha1 hq0 h_1 h_2 h_3 h_4 h_17 h_94 h_95 h_96 h_97 h_104 h_106 h_111 h_112 h_114 h_115 h_116 h_117 h_123 h_124 h_125 h_127 h_98; omega) | omega) (by first | (clear ha1 hq0 h_1 h_2 h_3 h_4 h_17 h_94 h_95 h_96 h_97 h_104 h_106 h_111 h_112 h_114 h_115 h_116 h_117 h_123 h_125 h_126 h_127 h_98; omega) | omega) (by first | (clear ha1 h_1 h_2 h_3 h_4 h_17 h_94 h_95 h_96 h_97 h_104 h_106 h_111 h_112 h_114 h_115 h_116 h_117 h_123 h_124 h_125 h_126 h_127 h_98; omega) | omega) (by first | (clear ha1 hq0 h_1 h_2 h_3 h_4 h_17 h_94 h_95 h_96 h_97 h_104 h_106 h_111 h_112 h_114 h_115 h_116 h_117 h_123 h_124 h_126 h_127 h_122 h_98; omega) | omega) (by first | (clear ha1 hq0 h_1 h_2 h_3 h_4 h_17 h_94 h_95 h_96 h_97 h_104 h_106 h_111 h_112 h_114 h_115 h_116 h_117 h_123 h_124 h_125 h_126 h_98; omega) | omega) (fun c_136 hI_137 hF_138 hW_139 h_140 h_141 h_142 h_143 h_144 => ?_)))
      intro hG_149
      refine bk_inl ?_
      have h_145 := ir_41_4 hI_137
      have h_146 := ir_41_7 hI_137
      have h_147 := ir_41_29 hI_137
      have h_148 := ir_41_5 hI_137
      have hI_150 := iw_41_29 (v := 0) hI_120 ⟨by decide, by decide⟩
      have h_151 : (up (up (up (up (up (up m 1 1 y_6) 1 2 0) 1 3 0) 1 4 0) 1 5 (-1)) (P + 7) 5 0) 1 4 = 0 := ((up_c (pn hP rfl rfl)).trans ((up_n (by decide)).trans (up_e rfl)))
      have h_152 : (up (up (up (up (up (up m 1 1 y_6) 1 2 0) 1 3 0) 1 4 0) 1 5 (-1)) (P + 7) 5 0) 1 2 = 0 := ((up_c (pn hP rfl rfl)).trans ((up_n (by decide)).trans ((up_n (by decide)).trans ((up_n (by decide)).trans (up_e rfl)))))
      have h_153 : (up (up (up (up (up (up m 1 1 y_6) 1 2 0) 1 3 0) 1 4 0) 1 5 (-1)) (P + 7) 5 0) 1 5 = (-1) := ((up_c (pn hP rfl rfl)).trans (up_e rfl))
      have h_154 : (up c_119 41 29 0) 41 5 = c_119 41 5 := (up_n (by decide))
      have h_155 : (up c_119 41 29 0) 41 4 = c_119 41 4 := (up_n (by decide))
      have h_156 := ir_41_6 hI
      have kn_157 : Hid (c_119 41 6 = c 41 6) := (hF_121 41 6 (fun q => q.elim (fun h => absurd h.2 (ni rfl)) (fun q => q.elim (fun h => absurd h.2 (ni rfl)) (fun q => q.elim (fun h => absurd h.2 (ni rfl)) (fun q => q.elim (fun h => absurd h.2 (ni rfl)) (fun q => q.elim (fun h => absurd h.2 (ni rfl)) (fun h => absurd h.2 (ni rfl)))))))).trans (up_n (by decide))
      have h_158 : (up c_119 41 29 0) 41 6 = c 41 6 := ((up_n (by decide)).trans (hid kn_157))
      have hA_159 : Ce 0 ((up (up (up (up (up (up m 1 1 y_6) 1 2 0) 1 3 0) 1 4 0) 1 5 (-1)) (P + 7) 5 0) (P + 9)) ((up c_119 41 29 0) 50) ((up c_119 41 29 0) 51) := ce_z (by omega)
      have hR_160 : Rt c_13 c_136 := gh hG_149 (L_13c (c := (up c_119 41 29 0)) (m := up (up (up (up (up (up m 1 1 y_6) 1 2 0) 1 3 0) 1 4 0) 1 5 (-1)) (P + 7) 5 0) (a2 := 0) (e1 := y_6) (f0 := 0) (g0 := (-1)) (p0 := 0) (n0 := 0) (o0 := c_119 41 7) (F := F) (H := H) hI_150 hI_12 hI_14 hP (show 0 ≤ 0 ∧ 0 ≤ 6 from by omega) (by omega) (by omega) (by omega) (by omega) (by omega) (by omega) (((up_c (pn hP rfl rfl)).trans ((up_n (by decide)).trans ((up_n (by decide)).trans ((up_n (by decide)).trans ((up_n (by decide)).trans (up_e rfl))))))) (((show _ = c_119 41 3 from (up_n (by decide))).trans (by omega))) (((up_c (pn hP rfl rfl)).trans ((up_n (by decide)).trans (up_e rfl)))) (((up_c (pn hP rfl rfl)).trans (up_e rfl))) (((up_c (pn hP rfl rfl)).trans ((up_n (by decide)).trans ((up_n (by decide)).trans ((up_n (by decide)).trans (up_e rfl)))))) ((up_e rfl)) ((up_e rfl)) ((up_n (by decide))) (fun j => ((up_c (pn hP rfl rfl)).trans ((up_c (nn rfl)).trans ((up_c (nn rfl)).trans ((up_c (nn rfl)).trans ((up_c (nn rfl)).trans (up_c (nn rfl))))))).trans (hF j)) (fun j => ((up_c (nn rfl)).trans ((hF_121 43 j (fun q => q.elim (fun h => absurd h.1 (nn rfl)) (fun q => q.elim (fun h => absurd h.1 (nn rfl)) (fun q => q.elim (fun h => absurd h.1 (nn rfl)) (fun q => q.elim (fun h => absurd h.1 (nn rfl)) (fun q => q.elim (fun h => absurd h.1 (nn rfl)) (fun h => absurd h.1 (nn rfl)))))))).trans (up_c (nn rfl)))).trans (hH j)) hU (rt_i1 ⟨by first | (clear ha1 hq0 h_1 h_2 h_3 h_4 h_17 h_94 h_95 h_96 h_97 h_104 h_106 h_111 h_112 h_114 h_115 h_116 h_117 h_123 h_124 h_125 h_126 h_127 h_122 h_156 h_98; omega) | omega, by first | (clear ha1 hq0 h_1 h_2 h_3 h_4 h_17 h_94 h_95 h_96 h_97 h_104 h_106 h_111 h_112 h_114 h_115 h_116 h_117 h_123 h_124 h_125 h_127 h_156 h_98; omega) | omega, by first | (clear ha1 hq0 h_1 h_2 h_3 h_4 h_17 h_94 h_95 h_96 h_97 h_104 h_106 h_111 h_112 h_114 h_115 h_116 h_117 h_123 h_124 h_126 h_127 h_156 h_98; omega) | omega, by first | (clear ha1 hq0 h_1 h_2 h_3 h_4 h_17 h_94 h_95 h_96 h_97 h_104 h_106 h_111 h_112 h_114 h_115 h_116 h_117 h_123 h_124 h_125 h_126 h_127 h_122 h_156 h_98; omega) | omega⟩) (ce_le hA_159 (by omega)) hG_16 (fun c8 hI8 hF8 hR8 h_161 h_162 h_163 => fun e8 => rt_wd hR8 (Prod.mk.inj (Prod.mk.inj e8).2).1 hI8 hI_137))
      have hQ_164 : c_13 1 4 = 0 → c_13 (P + 7) 5 = c_136 41 29 ∧ Ce (c_136 41 29) (c_13 (P + 9)) (c_136 50) (c_136 51) := gh hG_149 (L_13c (c := (up c_119 41 29 0)) (m := up (up (up (up (up (up m 1 1 y_6) 1 2 0) 1 3 0) 1 4 0) 1 5 (-1)) (P + 7) 5 0) (a2 := 0) (e1 := y_6) (f0 := 0) (g0 := (-1)) (p0 := 0) (n0 := 0) (o0 := c_119 41 7) (F := F) (H := H) hI_150 hI_12 hI_14 hP (show 0 ≤ 0 ∧ 0 ≤ 6 from by omega) (by omega) (by omega) (by omega) (by omega) (by omega) (by omega) (((up_c (pn hP rfl rfl)).trans ((up_n (by decide)).trans ((up_n (by decide)).trans ((up_n (by decide)).trans ((up_n (by decide)).trans (up_e rfl))))))) (((show _ = c_119 41 3 from (up_n (by decide))).trans (by omega))) (((up_c (pn hP rfl rfl)).trans ((up_n (by decide)).trans (up_e rfl)))) (((up_c (pn hP rfl rfl)).trans (up_e rfl))) (((up_c (pn hP rfl rfl)).trans ((up_n (by decide)).trans ((up_n (by decide)).trans ((up_n (by decide)).trans (up_e rfl)))))) ((up_e rfl)) ((up_e rfl)) ((up_n (by decide))) (fun j => ((up_c (pn hP rfl rfl)).trans ((up_c (nn rfl)).trans ((up_c (nn rfl)).trans ((up_c (nn rfl)).trans ((up_c (nn rfl)).trans (up_c (nn rfl))))))).trans (hF j)) (fun j => ((up_c (nn rfl)).trans ((hF_121 43 j (fun q => q.elim (fun h => absurd h.1 (nn rfl)) (fun q => q.elim (fun h => absurd h.1 (nn rfl)) (fun q => q.elim (fun h => absurd h.1 (nn rfl)) (fun q => q.elim (fun h => absurd h.1 (nn rfl)) (fun q => q.elim (fun h => absurd h.1 (nn rfl)) (fun h => absurd h.1 (nn rfl)))))))).trans (up_c (nn rfl)))).trans (hH j)) hU (rt_i1 ⟨by first | (clear ha1 hq0 h_1 h_2 h_3 h_4 h_17 h_94 h_95 h_96 h_97 h_104 h_106 h_111 h_112 h_114 h_115 h_116 h_117 h_123 h_124 h_125 h_126 h_127 h_122 h_156 h_98; omega) | omega, by first | (clear ha1 hq0 h_1 h_2 h_3 h_4 h_17 h_94 h_95 h_96 h_97 h_104 h_106 h_111 h_112 h_114 h_115 h_116 h_117 h_123 h_124 h_125 h_127 h_156 h_98; omega) | omega, by first | (clear ha1 hq0 h_1 h_2 h_3 h_4 h_17 h_94 h_95 h_96 h_97 h_104 h_106 h_111 h_112 h_114 h_115 h_116 h_117 h_123 h_124 h_126 h_127 h_156 h_98; omega) | omega, by first | (clear ha1 hq0 h_1 h_2 h_3 h_4 h_17 h_94 h_95 h_96 h_97 h_104 h_106 h_111 h_112 h_114 h_115 h_116 h_117 h_123 h_124 h_125 h_126 h_127 h_122 h_156 h_98; omega) | omega⟩) (ce_le hA_159 (by omega)) hG_16 (fun c8 hI8 hF8 hR8 h_161 h_162 h_163 => fun e8 h0 => ce_wd (h_163 h0) (by omega) (Prod.mk.inj (Prod.mk.inj e8).2).1 hI8 hI_137))
      have h_165 : c_13 1 4 = 0 → c_13 (P + 7) 5 = c_136 41 29 := fun h0 => (hQ_164 h0).1
      have hA_166 : c_13 1 4 = 0 → Ce (c_136 41 29) (c_13 (P + 9)) (c_136 50) (c_136 51) := fun h0 => (hQ_164 h0).2
      refine q_aload_n rfl rfl ?_
      refine v_cv rfl rfl rfl rfl (by decide) ⟨⟨rfl, rfl⟩, by decide, rfl⟩ (Nat.le_of_ble_eq_true rfl) (Nat.le_of_ble_eq_true rfl) ?_
      refine q_aload_n rfl rfl ?_
      have h_167 := ir_41_6 hI_137
      have h_168 := rt_ok hR_160 (by omega)
      have hro_hR_160 := rt_ok hR_160 (by omega)
      refine v_gi (z := 5) (v := (-1)) rfl rfl rfl (by decide) rfl rfl hro_hR_160.2.1 ?_
      refine q_iconst rfl ?_
      refine v_ic_ne_f (t := 12) rfl (by decide) (by decide) ?_
      refine q_iconst rfl ?_
      refine q_goto (t := 13) rfl (by decide) ?_
      refine v_zret rfl rfl (by decide) ?_
      refine bk_inl ?_
      refine v_if_eq_f (t := 77) rfl (by decide) (by decide) ?_
      refine q_aload_n rfl rfl ?_
      refine v_cv rfl rfl rfl rfl (by decide) ⟨⟨rfl, rfl⟩, by decide, rfl⟩ (Nat.le_of_ble_eq_true rfl) (Nat.le_of_ble_eq_true rfl) ?_
      refine q_aload_n rfl rfl ?_
      have kn_169 : Hid (c_136 41 3 = c_119 41 3) := (hF_138 41 3 (fun q => q.elim (fun h => absurd h.2 (ni rfl)) (fun q => q.elim (fun h => absurd h.2 (ni rfl)) (fun q => q.elim (fun h => absurd h.2 (ni rfl)) (fun q => q.elim (fun h => absurd h.2 (ni rfl)) (fun q => q.elim (fun h => absurd h.2 (ni rfl)) (fun q => q.elim (fun h => absurd h (nn rfl)) (fun h => absurd h (nn rfl))))))))).trans (up_n (by decide))
      have h_170 := nx_be (b := F) (e := c_119 41 3) (a := c_13 1 2) (by first | (clear ha1 hq0 h_1 h_2 h_3 h_4 h_17 h_95 h_97 h_104 h_106 h_111 h_112 h_114 h_115 h_116 h_117 h_123 h_125 h_126 h_127 h_145 h_140 h_146 h_141 h_147 h_142 h_148 h_167 h_98 h_144 hA_166; omega) | omega)
      have h_171 : -2147483648 ≤ (F (nx F (c_119 41 3) (c_13 1 2))) ∧ (F (nx F (c_119 41 3) (c_13 1 2))) ≤ 2147483647 := by rw [← hF (nx F (c_119 41 3) (c_13 1 2))]; exact ir_2 hJ (nx F (c_119 41 3) (c_13 1 2))
      have h_172 := nx_n (b := F) (e := c_119 41 3) (a := c_13 1 2)
      have h_173 : (nx F (c_119 41 3) (c_13 1 2)) = (nx F y_6 (c_13 1 2)) := congrArg (fun z => nx F z (c_13 1 2)) (by omega)
      have h_174 : -2147483648 ≤ (H (nx F y_6 (c_13 1 2))) ∧ (H (nx F y_6 (c_13 1 2))) ≤ 2147483647 := by rw [← hH (nx F y_6 (c_13 1 2))]; exact ir_43 hI (nx F y_6 (c_13 1 2))
      have h_175 := hU (nx F y_6 (c_13 1 2)) (by omega) (by omega)
      have h_176 := hb_or (b := H) (e := c_119 41 3) (r := (nx F y_6 (c_13 1 2)))
      have h_177 := hb_bd (b := H) (e := c_119 41 3) (r := (nx F y_6 (c_13 1 2))) (lo := -2147483648) (hi := 2147483647) h_174 (by decide)
      refine v_cv rfl rfl rfl rfl (by decide) ⟨⟨rfl, rfl⟩, by decide, rfl⟩ (Nat.le_of_ble_eq_true rfl) (Nat.le_of_ble_eq_true rfl) (f_154 (e1 := c_119 41 3) (a9 := c_13 1 2) (B := H) (r8 := (nx F y_6 (c_13 1 2))) (r := (hb H (c_119 41 3) (nx F y_6 (c_13 1 2)))) hI_137 ((hid kn_169)) (hro_hR_160.2.2.1) (fun j => ((hF_138 43 j (fun q => q.elim (fun h => absurd h.1 (nn rfl)) (fun q => q.elim (fun h => absurd h.1 (nn rfl)) (fun q => q.elim (fun h => absurd h.1 (nn rfl)) (fun q => q.elim (fun h => absurd h.1 (nn rfl)) (fun q => q.elim (fun h => absurd h.1 (nn rfl)) (fun q => q.elim (fun h => absurd h (nn rfl)) (fun h => absurd h (nn rfl))))))))).trans ((up_c (nn rfl)).trans ((hF_121 43 j (fun q => q.elim (fun h => absurd h.1 (nn rfl)) (fun q => q.elim (fun h => absurd h.1 (nn rfl)) (fun q => q.elim (fun h => absurd h.1 (nn rfl)) (fun q => q.elim (fun h => absurd h.1 (nn rfl)) (fun q => q.elim (fun h => absurd h.1 (nn rfl)) (fun h => absurd h.1 (nn rfl)))))))).trans (up_c (nn rfl))))).trans (hH j)) (((nx_tr hU (by first | (clear ha1 hq0 h_1 h_2 h_3 h_4 h_17 h_95 h_96 h_97 h_104 h_106 h_111 h_112 h_114 h_115 h_116 h_117 h_123 h_124 h_125 h_126 h_127 h_122 h_145 h_140 h_146 h_141 h_147 h_142 h_148 h_167 h_168 h_170 h_171 h_98 h_143 h_144 hA_166 h_172; omega) | omega) (by first | (clear ha1 h_1 h_2 h_3 h_4 h_17 h_94 h_95 h_96 h_97 h_104 h_106 h_111 h_112 h_114 h_115 h_116 h_117 h_123 h_124 h_125 h_126 h_127 h_145 h_140 h_146 h_141 h_147 h_142 h_148 h_167 h_168 h_170 h_171 h_98 h_143 h_144 hA_166 h_172; omega) | omega)).trans (rfl)).trans h_173) rfl (fun c_178 hI_179 hF_180 h_181 => ?_))
      refine bk_inl ?_
      refine q_pop rfl rfl ?_
      refine q_aload_n rfl rfl ?_
      refine v_gi (z := 4) (v := (nx F y_6 (c_13 1 2))) rfl rfl rfl (by decide) rfl rfl (h_181) ?_
      refine q_aload_n rfl rfl ?_
      have kn_182 : Hid (c_178 41 3 = c_119 41 3) := (hF_180 41 3 (fun h => absurd h.2 (ni rfl))).trans (hid kn_169)
      refine v_gi (z := 3) (v := c_119 41 3) rfl rfl rfl (by decide) rfl rfl (hid kn_182) ?_
      refine v_ic_ge_t (t := 20) rfl (by decide) ⟨(Int.le_trans (by decide) h_124.1), by first | (clear h_1 h_2 h_3 h_4 h_17 h_95 h_106 h_111 h_112 h_114 h_115 h_116 h_117 h_146 h_147 h_167 hA_166; omega) | omega, by first | (clear ha1 hq0 h_1 h_2 h_3 h_4 h_17 h_94 h_95 h_96 h_97 h_104 h_106 h_111 h_112 h_114 h_115 h_116 h_117 h_123 h_125 h_126 h_127 h_122 h_145 h_140 h_146 h_141 h_147 h_142 h_148 h_167 h_168 h_171 h_174 h_175 h_177 h_98 h_143 h_144 hA_166 h_172 h_176; omega) | omega⟩ ?_
      refine q_iconst rfl ?_
      refine v_zret rfl rfl (by decide) ?_
      refine bk_inl ?_
      refine v_if_eq_t (t := 77) rfl (by decide) (by decide) ?_
      refine q_aload_n rfl rfl ?_
      refine q_iconst rfl ?_
      refine v_cv rfl rfl rfl rfl (by decide) ⟨⟨rfl, rfl⟩, by decide, rfl⟩ (Nat.le_of_ble_eq_true rfl) (Nat.le_of_ble_eq_true rfl) ?_
      refine q_aload_n rfl rfl ?_
      refine q_aload_n rfl rfl ?_
      have kn_183 : Hid (c_178 41 5 = (-1)) := (hF_180 41 5 (fun h => absurd h.2 (ni rfl))).trans hro_hR_160.2.1
      refine v_gi (z := 5) (v := (-1)) rfl rfl rfl (by decide) rfl rfl (hid kn_183) ?_
      refine v_pi (z := 8) rfl rfl rfl (by decide) rfl rfl rfl (by decide) ?_
      refine q_aload_n rfl rfl ?_
      refine v_cv rfl rfl rfl rfl (by decide) ⟨⟨rfl, rfl⟩, by decide, rfl⟩ (Nat.le_of_ble_eq_true rfl) (Nat.le_of_ble_eq_true rfl) ?_
      refine q_aload_n rfl rfl ?_
      refine v_gi (z := 5) (v := (-1)) rfl rfl rfl (by decide) rfl rfl ((up_n (by decide)).trans (hid kn_183)) ?_
      refine q_iconst rfl ?_
      refine v_ic_ne_f (t := 12) rfl (by decide) (by decide) ?_
      refine q_iconst rfl ?_
      refine q_goto (t := 13) rfl (by decide) ?_
      refine v_zret rfl rfl (by decide) ?_
      refine bk_inl ?_
      refine v_if_eq_f (t := 19) rfl (by decide) (by decide) ?_
      refine q_iload_n rfl rfl ?_
      refine q_goto (t := 26) rfl (by decide) ?_
      refine q_iret rfl rfl ?_
      refine bk_inl ?_
      refine q_istore_n rfl (by decide) ?_
      refine q_aload_n rfl rfl ?_
      refine v_gi (z := 5) (v := (-1)) rfl rfl rfl (by decide) rfl rfl ((up_n (by decide)).trans (hid kn_183)) ?_
      refine q_iconst rfl ?_
      refine v_ic_eq_t (t := 93) rfl (by decide) (by decide) ?_
      refine q_aload_n rfl rfl ?_
      refine q_aload_n rfl rfl ?_
      have kn_184 : Hid (c_178 41 29 = c_136 41 29) := hF_180 41 29 (fun h => absurd h.2 (ni rfl))
      refine v_gi (z := 29) (v := c_136 41 29) rfl rfl rfl (by decide) rfl rfl ((up_n (by decide)).trans (hid kn_184)) ?_
      refine v_pi (z := 30) rfl rfl rfl (by decide) rfl rfl rfl (by decide) ?_
      refine q_aload_n rfl rfl ?_
      refine q_aload_n rfl rfl ?_
      refine v_gr (t := 50) rfl rfl rfl (by decide) rfl ?_
      refine q_aload_n rfl rfl ?_
      refine v_gr (t := 52) rfl rfl rfl (by decide) rfl ?_
      refine q_aload_n rfl rfl ?_
      refine v_gi (z := 29) (v := c_136 41 29) rfl rfl rfl (by decide) rfl rfl ((up_n (by decide)).trans ((up_n (by decide)).trans (hid kn_184))) ?_
      obtain ⟨hW_185, hN_186⟩ : Nw (up c_178 41 8 (-1)) ∧ Nh (up c_178 41 8 (-1)) = Nh c_136 := nh_fr hW_139 (fun j => (up_c (nn rfl)).trans (hF_180 50 j (fun h => absurd h.1 (nn rfl)))) (fun j => (up_c (nn rfl)).trans (hF_180 51 j (fun h => absurd h.1 (nn rfl)))) ((up_n (by decide)).trans (hF_180 41 29 (fun h => absurd h.2 (ni rfl))))
      refine v_cv rfl rfl rfl rfl (by decide) ⟨⟨rfl, rfl⟩, by decide, rfl⟩ (Nat.le_of_ble_eq_true rfl) (Nat.le_of_ble_eq_true rfl) (s_148 (f := 50) (t := 52) (nf := 150) (nt := 150) (n := c_136 41 29) rfl rfl (by decide) (by decide) (by decide) (by decide) (by decide) (by omega) ?_)
      refine bk_inl ?_
      refine q_aload_n rfl rfl ?_
      refine q_aload_n rfl rfl ?_
      refine v_gr (t := 51) rfl rfl rfl (by decide) rfl ?_
      refine q_aload_n rfl rfl ?_
      refine v_gr (t := 53) rfl rfl rfl (by decide) rfl ?_
      refine q_aload_n rfl rfl ?_
      refine v_gi (z := 29) (v := c_136 41 29) rfl rfl rfl (by decide) rfl rfl ((upc_c (by omega)).trans ((up_n (by decide)).trans ((up_n (by decide)).trans (hid kn_184)))) ?_
      refine v_cv rfl rfl rfl rfl (by decide) ⟨⟨rfl, rfl⟩, by decide, rfl⟩ (Nat.le_of_ble_eq_true rfl) (Nat.le_of_ble_eq_true rfl) (s_148 (f := 51) (t := 53) (nf := 150) (nt := 150) (n := c_136 41 29) rfl rfl (by decide) (by decide) (by decide) (by decide) (by decide) (by omega) ?_)
      refine bk_inl ?_
      refine q_iload_n rfl rfl ?_
      refine q_iret rfl rfl ?_
      have hI_187 := iw_41_8 (v := (-1)) hI_179 ⟨by decide, by decide⟩
      have hI_188 : Iv 0 (-1) P2 Q2 (upc (upc (up (up c_178 41 8 (-1)) 41 30 (c_136 41 29)) 50 0 52 0 (c_136 41 29)) 51 0 53 0 (c_136 41 29)) := iv_law (n := c_136 41 29) hI_187 hW_185 (show (up c_178 41 8 (-1)) 41 29 = c_136 41 29 from ((up_n (by decide)).trans (hid kn_184))) (by omega)
      have kn_189 : Hid (c_136 41 2 = c_119 41 2) := (hF_138 41 2 (fun q => q.elim (fun h => absurd h.2 (ni rfl)) (fun q => q.elim (fun h => absurd h.2 (ni rfl)) (fun q => q.elim (fun h => absurd h.2 (ni rfl)) (fun q => q.elim (fun h => absurd h.2 (ni rfl)) (fun q => q.elim (fun h => absurd h.2 (ni rfl)) (fun q => q.elim (fun h => absurd h (nn rfl)) (fun h => absurd h (nn rfl))))))))).trans (up_n (by decide))
      have kn_190 : Hid (c_178 41 2 = c_119 41 2) := (hF_180 41 2 (fun h => absurd h.2 (ni rfl))).trans (hid kn_189)
      have h_191 : (upc (upc (up (up c_178 41 8 (-1)) 41 30 (c_136 41 29)) 50 0 52 0 (c_136 41 29)) 51 0 53 0 (c_136 41 29)) 41 2 = c_119 41 2 := ((upc_c (by omega)).trans ((upc_c (by omega)).trans ((up_n (by decide)).trans ((up_n (by decide)).trans (hid kn_190)))))
      have h_192 : (upc (upc (up (up c_178 41 8 (-1)) 41 30 (c_136 41 29)) 50 0 52 0 (c_136 41 29)) 51 0 53 0 (c_136 41 29)) 41 8 = (-1) := ((upc_c (by omega)).trans ((upc_c (by omega)).trans ((up_n (by decide)).trans (up_e rfl))))
      have kn_193 : Hid (c_119 41 0 = 0) := (hF_121 41 0 (fun q => q.elim (fun h => absurd h.2 (ni rfl)) (fun q => q.elim (fun h => absurd h.2 (ni rfl)) (fun q => q.elim (fun h => absurd h.2 (ni rfl)) (fun q => q.elim (fun h => absurd h.2 (ni rfl)) (fun q => q.elim (fun h => absurd h.2 (ni rfl)) (fun h => absurd h.2 (ni rfl)))))))).trans (up_e rfl)
      have kn_194 : Hid (c_136 41 0 = 0) := (hF_138 41 0 (fun q => q.elim (fun h => absurd h.2 (ni rfl)) (fun q => q.elim (fun h => absurd h.2 (ni rfl)) (fun q => q.elim (fun h => absurd h.2 (ni rfl)) (fun q => q.elim (fun h => absurd h.2 (ni rfl)) (fun q => q.elim (fun h => absurd h.2 (ni rfl)) (fun q => q.elim (fun h => absurd h (nn rfl)) (fun h => absurd h (nn rfl))))))))).trans ((up_n (by decide)).trans (hid kn_193))
      have kn_195 : Hid (c_178 41 0 = 0) := (hF_180 41 0 (fun h => absurd h.2 (ni rfl))).trans (hid kn_194)
      have h_196 : (upc (upc (up (up c_178 41 8 (-1)) 41 30 (c_136 41 29)) 50 0 52 0 (c_136 41 29)) 51 0 53 0 (c_136 41 29)) 41 0 = 0 := ((upc_c (by omega)).trans ((upc_c (by omega)).trans ((up_n (by decide)).trans ((up_n (by decide)).trans (hid kn_195)))))
      have h_197 : (upc (upc (up (up c_178 41 8 (-1)) 41 30 (c_136 41 29)) 50 0 52 0 (c_136 41 29)) 51 0 53 0 (c_136 41 29)) 41 30 = c_136 41 29 := ((upc_c (by omega)).trans ((upc_c (by omega)).trans (up_e rfl)))
      have h_198 : (upc (upc (up (up c_178 41 8 (-1)) 41 30 (c_136 41 29)) 50 0 52 0 (c_136 41 29)) 51 0 53 0 (c_136 41 29)) 41 30 = c_136 41 29 := ((upc_c (by omega)).trans ((upc_c (by omega)).trans (up_e rfl)))
      have hA_199 : Ce (c_136 41 29) (c_99 (P + 9)) ((up (up c_178 41 8 (-1)) 41 30 (c_136 41 29)) 50) ((up (up c_178 41 8 (-1)) 41 30 (c_136 41 29)) 51) := ce_fr (hA_166 (by omega)) (fun j => hF_101 (P + 9) j (fun h => absurd h.1 (np hP rfl rfl))) (fun j => (up_c (nn rfl)).trans ((up_c (nn rfl)).trans (hF_180 50 j (fun h => absurd h.1 (nn rfl))))) (fun j => (up_c (nn rfl)).trans ((up_c (nn rfl)).trans (hF_180 51 j (fun h => absurd h.1 (nn rfl)))))
      have hA_200 : Ce (c_136 41 29) ((up (upc c_99 (P + 9) 0 (P + 8) 0 150) (P + 7) 4 (c_13 (P + 7) 5)) (P + 8)) ((upc (upc (up (up c_178 41 8 (-1)) 41 30 (c_136 41 29)) 50 0 52 0 (c_136 41 29)) 51 0 53 0 (c_136 41 29)) 52) ((upc (upc (up (up c_178 41 8 (-1)) 41 30 (c_136 41 29)) 50 0 52 0 (c_136 41 29)) 51 0 53 0 (c_136 41 29)) 53) := ce_cp hA_199 (fun j h1 h2 => (up_c (pp rfl)).trans ((upc_e ⟨by omega, by omega⟩).trans (congrArg (c_99 (P + 9)) (by omega)))) (fun j h1 h2 => (upc_c (nn rfl)).trans ((upc_e ⟨by omega, by omega⟩).trans (congrArg ((up (up c_178 41 8 (-1)) 41 30 (c_136 41 29)) 50) (by omega)))) (fun j h1 h2 => (upc_e ⟨by omega, by omega⟩).trans (congrArg ((upc (up (up c_178 41 8 (-1)) 41 30 (c_136 41 29)) 50 0 52 0 (c_136 41 29)) 51) (by omega)))
      have hA_201 : Ce (c_136 41 29) (m9 (P + 8)) ((upc (upc (up (up c_178 41 8 (-1)) 41 30 (c_136 41 29)) 50 0 52 0 (c_136 41 29)) 51 0 53 0 (c_136 41 29)) 52) ((upc (upc (up (up c_178 41 8 (-1)) 41 30 (c_136 41 29)) 50 0 52 0 (c_136 41 29)) 51 0 53 0 (c_136 41 29)) 53) := ce_l hA_200 (fun j h1 h2 => wd_av hW (ck_p8 hP) (ck_p8 hP) (by decide) (a68 hP rfl) ⟨h1, by omega⟩ rfl (ir_p8 hI_109 hP j) (ir_p8 hJ9 hP j))
      exact K (upc (upc (up (up c_178 41 8 (-1)) 41 30 (c_136 41 29)) 50 0 52 0 (c_136 41 29)) 51 0 53 0 (c_136 41 29)) 1 hI_188 (fun a j hm => (upc_c (fun h => hm (Or.inr (Or.inr (Or.inr (Or.inr (Or.inr (Or.inr (Or.inr (Or.inr (Or.inr (Or.inr (Or.inr (Or.inr (Or.inr (Or.inr h)))))))))))))))).trans ((upc_c (fun h => hm (Or.inr (Or.inr (Or.inr (Or.inr (Or.inr (Or.inr (Or.inr (Or.inr (Or.inr (Or.inr (Or.inr (Or.inr (Or.inr (Or.inl h)))))))))))))))).trans ((up_b (Decidable.or_iff_not_imp_left.mpr (fun h1 h2 => hm (Or.inr (Or.inr (Or.inr (Or.inr (Or.inr (Or.inr (Or.inr (Or.inr (Or.inr (Or.inr (Or.inl ⟨Decidable.not_not.mp h1, h2⟩)))))))))))))).trans ((up_b (Decidable.or_iff_not_imp_left.mpr (fun h1 h2 => hm (Or.inr (Or.inr (Or.inr (Or.inr (Or.inr (Or.inr (Or.inr (Or.inr (Or.inl ⟨Decidable.not_not.mp h1, h2⟩)))))))))))).trans ((hF_180 a j (fun h => hm (Or.inr (Or.inr (Or.inr (Or.inr (Or.inl h))))))).trans ((hF_138 a j (fun q => q.elim (fun h => hm (Or.inr (Or.inr (Or.inr (Or.inr (Or.inl h)))))) (fun q => q.elim (fun h => hm (Or.inr (Or.inr (Or.inr (Or.inr (Or.inr (Or.inl h))))))) (fun q => q.elim (fun h => hm (Or.inr (Or.inr (Or.inr (Or.inr (Or.inr (Or.inr (Or.inl h)))))))) (fun q => q.elim (fun h => hm (Or.inr (Or.inr (Or.inr (Or.inr (Or.inr (Or.inr (Or.inr (Or.inl h))))))))) (fun q => q.elim (fun h => hm (Or.inr (Or.inr (Or.inr (Or.inr (Or.inr (Or.inr (Or.inr (Or.inr (Or.inr (Or.inl h))))))))))) (fun q => q.elim (fun h => hm (Or.inr (Or.inr (Or.inr (Or.inr (Or.inr (Or.inr (Or.inr (Or.inr (Or.inr (Or.inr (Or.inr (Or.inl h))))))))))))) (fun h => hm (Or.inr (Or.inr (Or.inr (Or.inr (Or.inr (Or.inr (Or.inr (Or.inr (Or.inr (Or.inr (Or.inr (Or.inr (Or.inl h))))))))))))))))))))).trans ((up_b (Decidable.or_iff_not_imp_left.mpr (fun h1 h2 => hm (Or.inr (Or.inr (Or.inr (Or.inr (Or.inr (Or.inr (Or.inr (Or.inr (Or.inr (Or.inl ⟨Decidable.not_not.mp h1, h2⟩))))))))))))).trans ((hF_121 a j (fun q => q.elim (fun h => hm (Or.inr (Or.inr (Or.inl h)))) (fun q => q.elim (fun h => hm (Or.inr (Or.inr (Or.inr (Or.inl h))))) (fun q => q.elim (fun h => hm (Or.inr (Or.inr (Or.inr (Or.inr (Or.inl h)))))) (fun q => q.elim (fun h => hm (Or.inr (Or.inr (Or.inr (Or.inr (Or.inr (Or.inl h))))))) (fun q => q.elim (fun h => hm (Or.inr (Or.inr (Or.inr (Or.inr (Or.inr (Or.inr (Or.inr (Or.inl h))))))))) (fun h => hm (Or.inr (Or.inr (Or.inr (Or.inr (Or.inr (Or.inr (Or.inr (Or.inr (Or.inl h)))))))))))))))).trans (up_b (Decidable.or_iff_not_imp_left.mpr (fun h1 h2 => hm (Or.inl ⟨Decidable.not_not.mp h1, h2⟩)))))))))))) ⟨by omega, by omega⟩ (by first | (clear ha1 hq0 h_1 h_2 h_3 h_4 h_17 h_94 h_95 h_96 h_97 h_104 h_106 h_112 h_114 h_115 h_116 h_117 h_123 h_124 h_125 h_126 h_127 h_122 h_145 h_140 h_146 h_141 h_147 h_142 h_148 h_167 h_168 h_170 h_171 h_173 h_174 h_175 h_177 h_98 h_143 h_144 hA_166 h_172 h_176; omega) | omega) (by first | (clear ha1 hq0 h_1 h_2 h_3 h_4 h_17 h_94 h_95 h_96 h_97 h_104 h_106 h_111 h_112 h_114 h_115 h_116 h_117 h_124 h_125 h_126 h_127 h_145 h_140 h_146 h_141 h_147 h_142 h_148 h_167 h_168 h_170 h_171 h_173 h_174 h_175 h_177 h_98 h_143 h_144 hA_166 h_172 h_176; omega) | omega) (by first | (clear ha1 hq0 h_1 h_2 h_3 h_4 h_17 h_94 h_95 h_96 h_97 h_104 h_106 h_111 h_112 h_116 h_117 h_123 h_124 h_125 h_126 h_127 h_122 h_145 h_140 h_146 h_141 h_147 h_142 h_148 h_167 h_170 h_171 h_173 h_174 h_175 h_177 h_98 h_143 h_144 hA_166 h_172 h_176; omega) | omega) (by first | (clear ha1 hq0 h_1 h_2 h_3 h_4 h_17 h_94 h_95 h_96 h_97 h_104 h_106 h_111 h_112 h_114 h_115 h_116 h_117 h_123 h_124 h_125 h_126 h_127 h_122 h_145 h_140 h_146 h_141 h_147 h_142 h_148 h_167 h_168 h_170 h_171 h_173 h_174 h_175 h_177 h_98 h_143 h_144 hA_166 h_172 h_176; omega) | omega) (by first | (clear ha1 hq0 h_1 h_2 h_3 h_4 h_17 h_94 h_95 h_96 h_97 h_104 h_106 h_111 h_112 h_114 h_115 h_123 h_124 h_125 h_126 h_127 h_122 h_145 h_140 h_146 h_141 h_148 h_167 h_168 h_170 h_171 h_173 h_174 h_175 h_177 h_98 h_143 h_144 h_172 h_176; omega) | omega) (ce_le hA_201 (by omega))
    · refine v_ic_ge_f (t := 22) rfl (by decide) ⟨by omega, (Int.not_le.mp h_104), by omega⟩ ?_
      refine q_iconst rfl ?_
      refine q_goto (t := 23) rfl (by decide) ?_
      refine v_zret rfl rfl (by decide) ?_
      refine bk_inl ?_
      refine v_if_eq_f (t := 16) rfl (by decide) (by decide) ?_
      refine q_aload_n rfl rfl ?_
      refine q_iconst rfl ?_
      refine q_aload_n rfl rfl ?_
      refine v_gi (z := 2) (v := (nx F y_6 (c_13 1 2))) rfl rfl rfl (by decide) rfl rfl (hz_102) ?_
      refine v_cv rfl rfl rfl rfl (by decide) ⟨⟨rfl, rfl⟩, by decide, rfl⟩ (Nat.le_of_ble_eq_true rfl) (Nat.le_of_ble_eq_true rfl) ?_
      refine q_aload_n rfl rfl ?_
      have kn_202 : Hid (c_99 1 4 = c_13 1 4) := hF_101 1 4 (fun h => absurd h.2 (ni rfl))
      refine v_gi (z := 4) (v := c_13 1 4) rfl rfl rfl (by decide) rfl rfl (hid kn_202) ?_
      refine v_if_ne_f (t := 17) rfl (by decide) (by omega) ?_
      refine q_aload_n rfl rfl ?_
      refine q_iload_n rfl rfl ?_
      refine v_pi (z := 4) rfl rfl rfl (by decide) rfl rfl rfl (by decide) ?_
      refine q_aload_n rfl rfl ?_
      refine q_iload_n rfl rfl ?_
      refine v_pi (z := 5) rfl rfl rfl (by decide) rfl rfl rfl (by decide) ?_
      refine q_vret rfl rfl ?_
      refine bk_inl ?_
      refine q_vret rfl rfl ?_
      refine bk_inl ?_
      refine q_aload_n rfl rfl ?_
      refine v_cv rfl rfl rfl rfl (by decide) ⟨⟨rfl, rfl⟩, by decide, rfl⟩ (Nat.le_of_ble_eq_true rfl) (Nat.le_of_ble_eq_true rfl) ?_
      refine q_aload_n rfl rfl ?_
      refine v_gi (z := 4) (v := 1) rfl rfl rfl (by decide) rfl rfl ((up_n (by decide)).trans (up_e rfl)) ?_
      refine v_if_ne_t (t := 11) rfl (by decide) (by decide) ?_
      refine q_iconst rfl ?_
      refine v_zret rfl rfl (by decide) ?_
      refine bk_inl ?_
      refine v_if_eq_t (t := 46) rfl (by decide) (by decide) ?_
      refine q_vret rfl rfl ?_
      refine bk_inl ?_
      refine q_aload_n rfl rfl ?_
      refine q_iconst rfl ?_
      refine v_cv rfl rfl rfl rfl (by decide) ⟨⟨rfl, rfl⟩, by decide, rfl⟩ (Nat.le_of_ble_eq_true rfl) (Nat.le_of_ble_eq_true rfl) ?_
      refine q_aload_n rfl rfl ?_
      refine v_gr (t := 1) rfl rfl rfl (by decide) rfl ?_
      refine v_cv rfl rfl rfl rfl (by decide) ⟨⟨rfl, rfl⟩, by decide, rfl⟩ (Nat.le_of_ble_eq_true rfl) (Nat.le_of_ble_eq_true rfl) ?_
      refine q_aload_n rfl rfl ?_
      refine v_gi (z := 4) (v := 1) rfl rfl rfl (by decide) rfl rfl ((up_n (by decide)).trans (up_e rfl)) ?_
      refine v_if_ne_t (t := 11) rfl (by decide) (by decide) ?_
      refine q_iconst rfl ?_
      refine v_zret rfl rfl (by decide) ?_
      refine bk_inl ?_
      refine v_if_eq_t (t := 14) rfl (by decide) (by decide) ?_
      refine q_aload_n rfl rfl ?_
      refine v_gr (t := 1) rfl rfl rfl (by decide) rfl ?_
      refine v_gi (z := 4) (v := 1) rfl rfl rfl (by decide) rfl rfl ((up_n (by decide)).trans (up_e rfl)) ?_
      refine v_bip rfl (by decide) ?_
      refine v_isub (v := (-9)) rfl (by decide) ?_
      refine q_iret rfl rfl ?_
      refine bk_inl ?_
      refine q_iret rfl rfl ?_
      have hI_203 := iw_1_4 (v := 1) hI_100 ⟨by decide, by decide⟩
      have hI_204 := iw_1_5 (v := (nx F y_6 (c_13 1 2))) hI_203 ⟨by omega, by omega⟩
      intro hE_205
      have h_206 : yg = (-9) := (vi_inj ⟨by omega, by omega⟩ ⟨by omega, by omega⟩ (Option.some.inj (Sum.inl.inj (Prod.mk.inj hE_205).1))).symm
      have hW : Wd P Q P P (up (up c_99 1 4 1) 1 5 (nx F y_6 (c_13 1 2))) = Wd P Q P P m9 := (Prod.mk.inj (Prod.mk.inj hE_205).2).1
      have h_207 := ir_1_5 hJ9
      have h_208 : m9 1 5 = (nx F y_6 (c_13 1 2)) := wd_fv (z := 5) 5 rfl hW rfl rfl rfl rfl (by decide) (up_e rfl) ⟨by first | (clear ha1 hq0 h_1 h_2 h_3 h_4 h_17 h_95 h_97 h_206 h_207 h_98; omega) | omega, by first | (clear ha1 h_1 h_2 h_3 h_4 h_17 h_94 h_95 h_96 h_97 h_206 h_207 h_98; omega) | omega⟩ ⟨(Int.le_trans (by decide) h_207.1), (Int.le_trans h_207.2 (by decide))⟩
      have kn_209 : Hid (c_13 (P + 7) 4 = nl) := (hF_15 (P + 7) 4 (fun q => q.elim (fun h => absurd h.1 (np hP rfl rfl)) (fun q => q.elim (fun h => absurd h.1 (np hP rfl rfl)) (fun q => q.elim (fun h => absurd h.1 (np hP rfl rfl)) (fun q => q.elim (fun h => absurd h.2 (ni rfl)) (fun h => absurd h (pp rfl))))))).trans ((up_n (by decide)).trans ((up_c (np hP rfl rfl)).trans ((up_c (np hP rfl rfl)).trans ((up_c (np hP rfl rfl)).trans ((up_c (np hP rfl rfl)).trans ((up_c (np hP rfl rfl)).trans (hg_nl)))))))
      have kn_210 : Hid (c_99 (P + 7) 4 = nl) := (hF_101 (P + 7) 4 (fun h => absurd h.1 (np hP rfl rfl))).trans (hid kn_209)
      have h_211 := ir_p7_4 hJ9 hP
      have h_212 : m9 (P + 7) 4 = nl := wd_fv (z := 4) 4 rfl hW (ck_p7 hP) (ck_p7 hP) rfl rfl (by omega) ((up_c (np hP rfl rfl)).trans ((up_c (np hP rfl rfl)).trans (hid kn_210))) ⟨(Int.le_trans (by decide) (rg_eq hg_nl h_3).1), (Int.le_trans (rg_eq hg_nl h_3).2 (by decide))⟩ ⟨(Int.le_trans (by decide) h_211.1), (Int.le_trans h_211.2 (by decide))⟩
      refine q_aload_n rfl rfl ?_
      refine q_iconst rfl ?_
      refine v_pi (z := 0) rfl rfl rfl (by decide) rfl rfl rfl (by decide) ?_
      refine q_aload_n rfl rfl ?_
      refine q_iload_n rfl rfl ?_
      refine v_if_lt_f (t := 29) rfl (by decide) ⟨by decide, by first | (clear ha1 h_1 h_2 h_3 h_4 h_17 h_94 h_95 h_96 h_97 h_206 h_207 h_208 h_211 h_212 h_98; omega) | omega, ha1.2⟩ ?_
      refine q_iload_n rfl rfl ?_
      refine q_aload_n rfl rfl ?_
      refine v_gi (z := 2) (v := t9) rfl rfl rfl (by decide) rfl rfl ((up_n (by decide)).trans (hr_t9)) ?_
      refine v_ic_gt_f (t := 29) rfl (by decide) ⟨ha1.1, by first | (clear ha1 h_1 h_2 h_3 h_4 h_17 h_94 h_95 h_96 h_97 h_206 h_207 h_208 h_211 h_212 h_98; omega) | omega, (Int.le_trans (rg_eq hg_t9 h_1).2 (by decide))⟩ ?_
      refine q_iload_n rfl rfl ?_
      refine v_sip rfl (by decide) ?_
      refine v_ic_gt_f (t := 29) rfl (by decide) ⟨ha1.1, by first | (clear ha1 h_1 h_2 h_3 h_4 h_17 h_94 h_95 h_96 h_97 h_206 h_207 h_208 h_211 h_212 h_98; omega) | omega, by decide⟩ ?_
      refine q_iconst rfl ?_
      refine q_goto (t := 30) rfl (by decide) ?_
      refine q_iconst rfl ?_
      refine q_iconst rfl ?_
      refine v_cv rfl rfl rfl rfl (by decide) ⟨⟨rfl, rfl⟩, by decide, rfl⟩ (Nat.le_of_ble_eq_true rfl) (Nat.le_of_ble_eq_true rfl) ?_
      refine q_iload_n rfl rfl ?_
      refine v_if_ne_t (t := 26) rfl (by decide) (by decide) ?_
      refine q_aload_n rfl rfl ?_
      refine v_gi (z := 0) (v := 0) rfl rfl rfl (by decide) rfl rfl (up_e rfl) ?_
      refine v_if_ne_f (t := 37) rfl (by decide) (by decide) ?_
      refine q_iconst rfl ?_
      refine q_goto (t := 38) rfl (by decide) ?_
      refine v_zret rfl rfl (by decide) ?_
      refine bk_inl ?_
      refine v_if_ne_t (t := 40) rfl (by decide) (by decide) ?_
      refine q_aload_n rfl rfl ?_
      refine q_iload_n rfl rfl ?_
      have hI_213 := iw_41_0 (v := 0) hI ⟨by decide, by decide⟩
      refine v_cv rfl rfl rfl rfl (by decide) ⟨⟨rfl, rfl⟩, by decide, rfl⟩ (Nat.le_of_ble_eq_true rfl) (Nat.le_of_ble_eq_true rfl) (s_163 (a1 := a1) hI_213 (show 0 ≤ a1 ∧ a1 ≤ 600 from ⟨by first | (clear ha1 h_1 h_2 h_3 h_4 h_17 h_94 h_95 h_96 h_97 h_206 h_207 h_208 h_211 h_212 h_98; omega) | omega, by first | (clear ha1 h_1 h_2 h_3 h_4 h_17 h_94 h_95 h_96 h_97 h_206 h_207 h_208 h_211 h_212 h_98; omega) | omega⟩) (fun c_214 hI_215 hF_216 h_217 => ?_))
      refine bk_inl ?_
      have h_218 := ir_41_2 hI_215
      have h_219 := ir_41_3 hI_215
      have h_220 := ir_41_4 hI_215
      have h_221 := ir_41_5 hI_215
      have h_222 := ir_41_7 hI_215
      refine q_aload_n rfl rfl ?_
      refine q_iconst rfl ?_
      refine v_pi (z := 29) rfl rfl rfl (by decide) rfl rfl rfl (by decide) ?_
      refine q_aload_n rfl rfl ?_
      have hI_223 := iw_41_29 (v := 0) hI_215 ⟨by decide, by decide⟩
      have h_224 : (up c_214 41 29 0) 41 5 = c_214 41 5 := (up_n (by decide))
      have h_225 : (up c_214 41 29 0) 41 3 = c_214 41 3 := (up_n (by decide))
      have h_226 : (up c_214 41 29 0) 41 4 = c_214 41 4 := (up_n (by decide))
      have h_227 : (up c_214 41 29 0) 41 29 = 0 := (up_e rfl)
      have h_228 : (up c_214 41 29 0) 41 7 = c_214 41 7 := (up_n (by decide))
      obtain ⟨hW_229, hN_230⟩ := nw_zero (c := up c_214 41 29 0) ((up_e rfl))
      refine v_cv rfl rfl rfl rfl (by decide) ⟨⟨rfl, rfl⟩, by decide, rfl⟩ (Nat.le_of_ble_eq_true rfl) (Nat.le_of_ble_eq_true rfl) (fn_of (r_174 (o := 0) hI_223 (show 0 ≤ 0 ∧ 0 ≤ 6 from by omega) hW_229 (by first | (clear ha1 hq0 h_1 h_2 h_3 h_4 h_17 h_94 h_95 h_96 h_97 h_206 h_207 h_208 h_211 h_212 h_218 h_219 h_220 h_222 h_98; omega) | omega) (by first | (clear ha1 hq0 h_1 h_2 h_3 h_4 h_17 h_94 h_95 h_96 h_97 h_206 h_207 h_208 h_211 h_212 h_218 h_220 h_221 h_222 h_98; omega) | omega) (by first | (clear ha1 h_1 h_2 h_3 h_4 h_17 h_94 h_95 h_96 h_97 h_206 h_207 h_208 h_211 h_212 h_218 h_219 h_220 h_221 h_222 h_98; omega) | omega) (by first | (clear ha1 hq0 h_1 h_2 h_3 h_4 h_17 h_94 h_95 h_96 h_97 h_206 h_207 h_208 h_211 h_212 h_218 h_219 h_221 h_222 h_217 h_98; omega) | omega) (by first | (clear ha1 hq0 h_1 h_2 h_3 h_4 h_17 h_94 h_95 h_96 h_97 h_206 h_207 h_208 h_211 h_212 h_218 h_219 h_220 h_221 h_98; omega) | omega) (fun c_231 hI_232 hF_233 hW_234 h_235 h_236 h_237 h_238 h_239 => ?_)))
      intro hG_244
      refine bk_inl ?_
      have h_240 := ir_41_4 hI_232
      have h_241 := ir_41_7 hI_232
      have h_242 := ir_41_29 hI_232
      have h_243 := ir_41_5 hI_232
      have hI_245 := iw_41_29 (v := 0) hI_215 ⟨by decide, by decide⟩
      have h_246 : (up (up (up (up (up (up m 1 1 y_6) 1 2 0) 1 3 0) 1 4 0) 1 5 (-1)) (P + 7) 5 0) 1 4 = 0 := ((up_c (pn hP rfl rfl)).trans ((up_n (by decide)).trans (up_e rfl)))
      have h_247 : (up (up (up (up (up (up m 1 1 y_6) 1 2 0) 1 3 0) 1 4 0) 1 5 (-1)) (P + 7) 5 0) 1 2 = 0 := ((up_c (pn hP rfl rfl)).trans ((up_n (by decide)).trans ((up_n (by decide)).trans ((up_n (by decide)).trans (up_e rfl)))))
      have h_248 : (up (up (up (up (up (up m 1 1 y_6) 1 2 0) 1 3 0) 1 4 0) 1 5 (-1)) (P + 7) 5 0) 1 5 = (-1) := ((up_c (pn hP rfl rfl)).trans (up_e rfl))
      have h_249 : (up c_214 41 29 0) 41 5 = c_214 41 5 := (up_n (by decide))
      have h_250 : (up c_214 41 29 0) 41 4 = c_214 41 4 := (up_n (by decide))
      have h_251 := ir_41_6 hI
      have kn_252 : Hid (c_214 41 6 = c 41 6) := (hF_216 41 6 (fun q => q.elim (fun h => absurd h.2 (ni rfl)) (fun q => q.elim (fun h => absurd h.2 (ni rfl)) (fun q => q.elim (fun h => absurd h.2 (ni rfl)) (fun q => q.elim (fun h => absurd h.2 (ni rfl)) (fun q => q.elim (fun h => absurd h.2 (ni rfl)) (fun h => absurd h.2 (ni rfl)))))))).trans (up_n (by decide))
      have h_253 : (up c_214 41 29 0) 41 6 = c 41 6 := ((up_n (by decide)).trans (hid kn_252))
      have hA_254 : Ce 0 ((up (up (up (up (up (up m 1 1 y_6) 1 2 0) 1 3 0) 1 4 0) 1 5 (-1)) (P + 7) 5 0) (P + 9)) ((up c_214 41 29 0) 50) ((up c_214 41 29 0) 51) := ce_z (by omega)
      have hR_255 : Rt c_13 c_231 := gh hG_244 (L_13c (c := (up c_214 41 29 0)) (m := up (up (up (up (up (up m 1 1 y_6) 1 2 0) 1 3 0) 1 4 0) 1 5 (-1)) (P + 7) 5 0) (a2 := 0) (e1 := y_6) (f0 := 0) (g0 := (-1)) (p0 := 0) (n0 := 0) (o0 := c_214 41 7) (F := F) (H := H) hI_245 hI_12 hI_14 hP (show 0 ≤ 0 ∧ 0 ≤ 6 from by omega) (by omega) (by omega) (by omega) (by omega) (by omega) (by omega) (((up_c (pn hP rfl rfl)).trans ((up_n (by decide)).trans ((up_n (by decide)).trans ((up_n (by decide)).trans ((up_n (by decide)).trans (up_e rfl))))))) (((show _ = c_214 41 3 from (up_n (by decide))).trans (by omega))) (((up_c (pn hP rfl rfl)).trans ((up_n (by decide)).trans (up_e rfl)))) (((up_c (pn hP rfl rfl)).trans (up_e rfl))) (((up_c (pn hP rfl rfl)).trans ((up_n (by decide)).trans ((up_n (by decide)).trans ((up_n (by decide)).trans (up_e rfl)))))) ((up_e rfl)) ((up_e rfl)) ((up_n (by decide))) (fun j => ((up_c (pn hP rfl rfl)).trans ((up_c (nn rfl)).trans ((up_c (nn rfl)).trans ((up_c (nn rfl)).trans ((up_c (nn rfl)).trans (up_c (nn rfl))))))).trans (hF j)) (fun j => ((up_c (nn rfl)).trans ((hF_216 43 j (fun q => q.elim (fun h => absurd h.1 (nn rfl)) (fun q => q.elim (fun h => absurd h.1 (nn rfl)) (fun q => q.elim (fun h => absurd h.1 (nn rfl)) (fun q => q.elim (fun h => absurd h.1 (nn rfl)) (fun q => q.elim (fun h => absurd h.1 (nn rfl)) (fun h => absurd h.1 (nn rfl)))))))).trans (up_c (nn rfl)))).trans (hH j)) hU (rt_i1 ⟨by first | (clear ha1 hq0 h_1 h_2 h_3 h_4 h_17 h_94 h_95 h_96 h_97 h_206 h_207 h_208 h_211 h_212 h_218 h_219 h_220 h_221 h_222 h_217 h_251 h_98; omega) | omega, by first | (clear ha1 hq0 h_1 h_2 h_3 h_4 h_17 h_94 h_95 h_96 h_97 h_206 h_207 h_208 h_211 h_212 h_218 h_219 h_220 h_222 h_251 h_98; omega) | omega, by first | (clear ha1 hq0 h_1 h_2 h_3 h_4 h_17 h_94 h_95 h_96 h_97 h_206 h_207 h_208 h_211 h_212 h_218 h_219 h_221 h_222 h_251 h_98; omega) | omega, by first | (clear ha1 hq0 h_1 h_2 h_3 h_4 h_17 h_94 h_95 h_96 h_97 h_206 h_207 h_208 h_211 h_212 h_218 h_219 h_220 h_221 h_222 h_217 h_251 h_98; omega) | omega⟩) (ce_le hA_254 (by omega)) hG_16 (fun c8 hI8 hF8 hR8 h_256 h_257 h_258 => fun e8 => rt_wd hR8 (Prod.mk.inj (Prod.mk.inj e8).2).1 hI8 hI_232))
      have hQ_259 : c_13 1 4 = 0 → c_13 (P + 7) 5 = c_231 41 29 ∧ Ce (c_231 41 29) (c_13 (P + 9)) (c_231 50) (c_231 51) := gh hG_244 (L_13c (c := (up c_214 41 29 0)) (m := up (up (up (up (up (up m 1 1 y_6) 1 2 0) 1 3 0) 1 4 0) 1 5 (-1)) (P + 7) 5 0) (a2 := 0) (e1 := y_6) (f0 := 0) (g0 := (-1)) (p0 := 0) (n0 := 0) (o0 := c_214 41 7) (F := F) (H := H) hI_245 hI_12 hI_14 hP (show 0 ≤ 0 ∧ 0 ≤ 6 from by omega) (by omega) (by omega) (by omega) (by omega) (by omega) (by omega) (((up_c (pn hP rfl rfl)).trans ((up_n (by decide)).trans ((up_n (by decide)).trans ((up_n (by decide)).trans ((up_n (by decide)).trans (up_e rfl))))))) (((show _ = c_214 41 3 from (up_n (by decide))).trans (by omega))) (((up_c (pn hP rfl rfl)).trans ((up_n (by decide)).trans (up_e rfl)))) (((up_c (pn hP rfl rfl)).trans (up_e rfl))) (((up_c (pn hP rfl rfl)).trans ((up_n (by decide)).trans ((up_n (by decide)).trans ((up_n (by decide)).trans (up_e rfl)))))) ((up_e rfl)) ((up_e rfl)) ((up_n (by decide))) (fun j => ((up_c (pn hP rfl rfl)).trans ((up_c (nn rfl)).trans ((up_c (nn rfl)).trans ((up_c (nn rfl)).trans ((up_c (nn rfl)).trans (up_c (nn rfl))))))).trans (hF j)) (fun j => ((up_c (nn rfl)).trans ((hF_216 43 j (fun q => q.elim (fun h => absurd h.1 (nn rfl)) (fun q => q.elim (fun h => absurd h.1 (nn rfl)) (fun q => q.elim (fun h => absurd h.1 (nn rfl)) (fun q => q.elim (fun h => absurd h.1 (nn rfl)) (fun q => q.elim (fun h => absurd h.1 (nn rfl)) (fun h => absurd h.1 (nn rfl)))))))).trans (up_c (nn rfl)))).trans (hH j)) hU (rt_i1 ⟨by first | (clear ha1 hq0 h_1 h_2 h_3 h_4 h_17 h_94 h_95 h_96 h_97 h_206 h_207 h_208 h_211 h_212 h_218 h_219 h_220 h_221 h_222 h_217 h_251 h_98; omega) | omega, by first | (clear ha1 hq0 h_1 h_2 h_3 h_4 h_17 h_94 h_95 h_96 h_97 h_206 h_207 h_208 h_211 h_212 h_218 h_219 h_220 h_222 h_251 h_98; omega) | omega, by first | (clear ha1 hq0 h_1 h_2 h_3 h_4 h_17 h_94 h_95 h_96 h_97 h_206 h_207 h_208 h_211 h_212 h_218 h_219 h_221 h_222 h_251 h_98; omega) | omega, by first | (clear ha1 hq0 h_1 h_2 h_3 h_4 h_17 h_94 h_95 h_96 h_97 h_206 h_207 h_208 h_211 h_212 h_218 h_219 h_220 h_221 h_222 h_217 h_251 h_98; omega) | omega⟩) (ce_le hA_254 (by omega)) hG_16 (fun c8 hI8 hF8 hR8 h_256 h_257 h_258 => fun e8 h0 => ce_wd (h_258 h0) (by omega) (Prod.mk.inj (Prod.mk.inj e8).2).1 hI8 hI_232))
      have h_260 : c_13 1 4 = 0 → c_13 (P + 7) 5 = c_231 41 29 := fun h0 => (hQ_259 h0).1
      have hA_261 : c_13 1 4 = 0 → Ce (c_231 41 29) (c_13 (P + 9)) (c_231 50) (c_231 51) := fun h0 => (hQ_259 h0).2
      have h_262 := ir_p7_5 hI_14 hP
      refine q_aload_n rfl rfl ?_
      refine v_cv rfl rfl rfl rfl (by decide) ⟨⟨rfl, rfl⟩, by decide, rfl⟩ (Nat.le_of_ble_eq_true rfl) (Nat.le_of_ble_eq_true rfl) ?_
      refine q_aload_n rfl rfl ?_
      have h_263 := ir_1_5 hI_14
      have h_264 := ir_41_6 hI_232
      have h_265 := rt_ok hR_255 (by omega)
      have hro_hR_255 := rt_ok hR_255 (by omega)
      refine v_gi (z := 5) (v := (-1)) rfl rfl rfl (by decide) rfl rfl hro_hR_255.2.1 ?_
      refine q_iconst rfl ?_
      refine v_ic_ne_f (t := 12) rfl (by decide) (by decide) ?_
      refine q_iconst rfl ?_
      refine q_goto (t := 13) rfl (by decide) ?_
      refine v_zret rfl rfl (by decide) ?_
      refine bk_inl ?_
      refine v_if_eq_f (t := 77) rfl (by decide) (by decide) ?_
      refine q_aload_n rfl rfl ?_
      refine v_cv rfl rfl rfl rfl (by decide) ⟨⟨rfl, rfl⟩, by decide, rfl⟩ (Nat.le_of_ble_eq_true rfl) (Nat.le_of_ble_eq_true rfl) ?_
      refine q_aload_n rfl rfl ?_
      have kn_266 : Hid (c_231 41 3 = c_214 41 3) := (hF_233 41 3 (fun q => q.elim (fun h => absurd h.2 (ni rfl)) (fun q => q.elim (fun h => absurd h.2 (ni rfl)) (fun q => q.elim (fun h => absurd h.2 (ni rfl)) (fun q => q.elim (fun h => absurd h.2 (ni rfl)) (fun q => q.elim (fun h => absurd h.2 (ni rfl)) (fun q => q.elim (fun h => absurd h (nn rfl)) (fun h => absurd h (nn rfl))))))))).trans (up_n (by decide))
      have h_267 := nx_be (b := F) (e := c_214 41 3) (a := c_13 1 2) (by first | (clear ha1 hq0 h_1 h_2 h_3 h_4 h_17 h_94 h_95 h_97 h_206 h_207 h_208 h_211 h_212 h_218 h_219 h_220 h_221 h_222 h_240 h_235 h_241 h_236 h_242 h_237 h_243 h_262 h_263 h_264 h_265 h_98 h_238 h_239; omega) | omega)
      have h_268 : -2147483648 ≤ (F (nx F (c_214 41 3) (c_13 1 2))) ∧ (F (nx F (c_214 41 3) (c_13 1 2))) ≤ 2147483647 := by rw [← hF (nx F (c_214 41 3) (c_13 1 2))]; exact ir_2 hJ (nx F (c_214 41 3) (c_13 1 2))
      have h_269 := nx_n (b := F) (e := c_214 41 3) (a := c_13 1 2)
      have h_270 : (nx F (c_214 41 3) (c_13 1 2)) = (nx F y_6 (c_13 1 2)) := congrArg (fun z => nx F z (c_13 1 2)) (by omega)
      have h_271 : -2147483648 ≤ (H (nx F y_6 (c_13 1 2))) ∧ (H (nx F y_6 (c_13 1 2))) ≤ 2147483647 := by rw [← hH (nx F y_6 (c_13 1 2))]; exact ir_43 hI (nx F y_6 (c_13 1 2))
      have h_272 := hU (nx F y_6 (c_13 1 2)) (by omega) (by omega)
      have h_273 := hb_or (b := H) (e := c_214 41 3) (r := (nx F y_6 (c_13 1 2)))
      have h_274 := hb_bd (b := H) (e := c_214 41 3) (r := (nx F y_6 (c_13 1 2))) (lo := -2147483648) (hi := 2147483647) h_271 (by decide)
      refine v_cv rfl rfl rfl rfl (by decide) ⟨⟨rfl, rfl⟩, by decide, rfl⟩ (Nat.le_of_ble_eq_true rfl) (Nat.le_of_ble_eq_true rfl) (f_154 (e1 := c_214 41 3) (a9 := c_13 1 2) (B := H) (r8 := (nx F y_6 (c_13 1 2))) (r := (hb H (c_214 41 3) (nx F y_6 (c_13 1 2)))) hI_232 ((hid kn_266)) (hro_hR_255.2.2.1) (fun j => ((hF_233 43 j (fun q => q.elim (fun h => absurd h.1 (nn rfl)) (fun q => q.elim (fun h => absurd h.1 (nn rfl)) (fun q => q.elim (fun h => absurd h.1 (nn rfl)) (fun q => q.elim (fun h => absurd h.1 (nn rfl)) (fun q => q.elim (fun h => absurd h.1 (nn rfl)) (fun q => q.elim (fun h => absurd h (nn rfl)) (fun h => absurd h (nn rfl))))))))).trans ((up_c (nn rfl)).trans ((hF_216 43 j (fun q => q.elim (fun h => absurd h.1 (nn rfl)) (fun q => q.elim (fun h => absurd h.1 (nn rfl)) (fun q => q.elim (fun h => absurd h.1 (nn rfl)) (fun q => q.elim (fun h => absurd h.1 (nn rfl)) (fun q => q.elim (fun h => absurd h.1 (nn rfl)) (fun h => absurd h.1 (nn rfl)))))))).trans (up_c (nn rfl))))).trans (hH j)) (((nx_tr hU (by first | (clear ha1 hq0 h_1 h_2 h_3 h_4 h_17 h_95 h_96 h_97 h_206 h_207 h_208 h_211 h_212 h_218 h_219 h_220 h_221 h_222 h_217 h_240 h_235 h_241 h_236 h_242 h_237 h_243 h_262 h_263 h_264 h_265 h_267 h_268 h_98 h_238 h_239 h_269; omega) | omega) (by first | (clear ha1 h_1 h_2 h_3 h_4 h_17 h_94 h_95 h_96 h_97 h_206 h_207 h_208 h_211 h_212 h_218 h_219 h_220 h_221 h_222 h_240 h_235 h_241 h_236 h_242 h_237 h_243 h_262 h_263 h_264 h_265 h_267 h_268 h_98 h_238 h_239 h_269; omega) | omega)).trans (rfl)).trans h_270) rfl (fun c_275 hI_276 hF_277 h_278 => ?_))
      refine bk_inl ?_
      refine q_pop rfl rfl ?_
      refine q_aload_n rfl rfl ?_
      refine v_gi (z := 4) (v := (nx F y_6 (c_13 1 2))) rfl rfl rfl (by decide) rfl rfl (h_278) ?_
      refine q_aload_n rfl rfl ?_
      have kn_279 : Hid (c_275 41 3 = c_214 41 3) := (hF_277 41 3 (fun h => absurd h.2 (ni rfl))).trans (hid kn_266)
      refine v_gi (z := 3) (v := c_214 41 3) rfl rfl rfl (by decide) rfl rfl (hid kn_279) ?_
      refine v_ic_ge_f (t := 20) rfl (by decide) ⟨by first | (clear ha1 hq0 h_1 h_2 h_3 h_4 h_17 h_95 h_97 h_206 h_207 h_208 h_211 h_212 h_218 h_219 h_220 h_221 h_222 h_217 h_240 h_235 h_241 h_236 h_242 h_237 h_243 h_262 h_263 h_264 h_265 h_267 h_268 h_270 h_271 h_272 h_274 h_98 h_238 h_239 h_269 h_273; omega) | omega, by first | (clear ha1 hq0 h_1 h_2 h_3 h_4 h_17 h_94 h_95 h_96 h_97 h_206 h_207 h_208 h_211 h_212 h_218 h_219 h_220 h_221 h_222 h_240 h_235 h_241 h_236 h_242 h_237 h_243 h_262 h_263 h_264 h_265 h_267 h_268 h_270 h_271 h_272 h_274 h_98 h_238 h_239 h_269 h_273; omega) | omega, (Int.le_trans h_219.2 (by decide))⟩ ?_
      refine q_iconst rfl ?_
      refine q_goto (t := 21) rfl (by decide) ?_
      refine v_zret rfl rfl (by decide) ?_
      refine bk_inl ?_
      refine v_if_eq_f (t := 77) rfl (by decide) (by decide) ?_
      refine q_aload_n rfl rfl ?_
      refine q_iconst rfl ?_
      refine q_aload_n rfl rfl ?_
      refine v_gi (z := 4) (v := (nx F y_6 (c_13 1 2))) rfl rfl rfl (by decide) rfl rfl (h_278) ?_
      refine v_cv rfl rfl rfl rfl (by decide) ⟨⟨rfl, rfl⟩, by decide, rfl⟩ (Nat.le_of_ble_eq_true rfl) (Nat.le_of_ble_eq_true rfl) ?_
      refine q_aload_n rfl rfl ?_
      have kn_280 : Hid (c_275 41 5 = (-1)) := (hF_277 41 5 (fun h => absurd h.2 (ni rfl))).trans hro_hR_255.2.1
      refine v_gi (z := 5) (v := (-1)) rfl rfl rfl (by decide) rfl rfl (hid kn_280) ?_
      refine q_iconst rfl ?_
      refine v_ic_eq_t (t := 9) rfl (by decide) (by decide) ?_
      refine q_aload_n rfl rfl ?_
      refine q_iload_n rfl rfl ?_
      refine v_pi (z := 5) rfl rfl rfl (by decide) rfl rfl rfl (by decide) ?_
      refine q_aload_n rfl rfl ?_
      refine q_iload_n rfl rfl ?_
      refine v_pi (z := 6) rfl rfl rfl (by decide) rfl rfl rfl (by decide) ?_
      refine q_vret rfl rfl ?_
      refine bk_inl ?_
      refine q_aload_n rfl rfl ?_
      refine q_iconst rfl ?_
      refine v_cv rfl rfl rfl rfl (by decide) ⟨⟨rfl, rfl⟩, by decide, rfl⟩ (Nat.le_of_ble_eq_true rfl) (Nat.le_of_ble_eq_true rfl) ?_
      refine q_aload_n rfl rfl ?_
      refine q_aload_n rfl rfl ?_
      refine v_gi (z := 5) (v := (nx F y_6 (c_13 1 2))) rfl rfl rfl (by decide) rfl rfl ((up_n (by decide)).trans (up_e rfl)) ?_
      refine v_pi (z := 8) rfl rfl rfl (by decide) rfl rfl rfl (by decide) ?_
      refine q_aload_n rfl rfl ?_
      refine v_cv rfl rfl rfl rfl (by decide) ⟨⟨rfl, rfl⟩, by decide, rfl⟩ (Nat.le_of_ble_eq_true rfl) (Nat.le_of_ble_eq_true rfl) ?_
      refine q_aload_n rfl rfl ?_
      refine v_gi (z := 5) (v := (nx F y_6 (c_13 1 2))) rfl rfl rfl (by decide) rfl rfl ((up_n (by decide)).trans ((up_n (by decide)).trans (up_e rfl))) ?_
      refine q_iconst rfl ?_
      refine v_ic_ne_t (t := 12) rfl (by decide) ⟨by first | (clear ha1 hq0 h_1 h_2 h_3 h_4 h_17 h_95 h_97 h_206 h_207 h_208 h_211 h_212 h_218 h_219 h_220 h_221 h_222 h_217 h_240 h_235 h_241 h_236 h_242 h_237 h_243 h_262 h_263 h_264 h_265 h_267 h_268 h_270 h_271 h_272 h_274 h_98 h_238 h_239 h_269 h_273; omega) | omega, ⟨by first | (clear ha1 hq0 h_1 h_2 h_3 h_4 h_17 h_95 h_97 h_206 h_207 h_208 h_211 h_212 h_218 h_219 h_220 h_221 h_222 h_217 h_240 h_235 h_241 h_236 h_242 h_237 h_243 h_262 h_263 h_264 h_265 h_267 h_268 h_270 h_271 h_272 h_274 h_98 h_238 h_239 h_269 h_273; omega) | omega, by first | (clear ha1 hq0 h_1 h_2 h_3 h_4 h_17 h_94 h_95 h_96 h_97 h_206 h_211 h_212 h_218 h_219 h_220 h_221 h_222 h_217 h_240 h_235 h_241 h_236 h_242 h_237 h_243 h_262 h_263 h_264 h_265 h_267 h_268 h_270 h_271 h_272 h_274 h_98 h_238 h_239 h_269 h_273; omega) | omega⟩, by decide, by decide⟩ ?_
      refine q_iconst rfl ?_
      refine v_zret rfl rfl (by decide) ?_
      refine bk_inl ?_
      refine v_if_eq_t (t := 19) rfl (by decide) (by decide) ?_
      refine q_aload_n rfl rfl ?_
      refine v_gi (z := 6) (v := 1) rfl rfl rfl (by decide) rfl rfl ((up_n (by decide)).trans (up_e rfl)) ?_
      refine v_bip rfl (by decide) ?_
      refine v_isub (v := (-9)) rfl (by decide) ?_
      refine q_iret rfl rfl ?_
      refine bk_inl ?_
      refine q_istore_n rfl (by decide) ?_
      refine q_aload_n rfl rfl ?_
      refine v_gi (z := 5) (v := (nx F y_6 (c_13 1 2))) rfl rfl rfl (by decide) rfl rfl ((up_n (by decide)).trans ((up_n (by decide)).trans (up_e rfl))) ?_
      refine q_iconst rfl ?_
      refine v_ic_eq_f (t := 93) rfl (by decide) ⟨by first | (clear ha1 hq0 h_1 h_2 h_3 h_4 h_17 h_95 h_97 h_206 h_207 h_208 h_211 h_212 h_218 h_219 h_220 h_221 h_222 h_217 h_240 h_235 h_241 h_236 h_242 h_237 h_243 h_262 h_263 h_264 h_265 h_267 h_268 h_270 h_271 h_272 h_274 h_98 h_238 h_239 h_269 h_273; omega) | omega, ⟨by first | (clear ha1 hq0 h_1 h_2 h_3 h_4 h_17 h_95 h_97 h_206 h_207 h_208 h_211 h_212 h_218 h_219 h_220 h_221 h_222 h_217 h_240 h_235 h_241 h_236 h_242 h_237 h_243 h_262 h_263 h_264 h_265 h_267 h_268 h_270 h_271 h_272 h_274 h_98 h_238 h_239 h_269 h_273; omega) | omega, by first | (clear ha1 hq0 h_1 h_2 h_3 h_4 h_17 h_94 h_95 h_96 h_97 h_206 h_211 h_212 h_218 h_219 h_220 h_221 h_222 h_217 h_240 h_235 h_241 h_236 h_242 h_237 h_243 h_262 h_263 h_264 h_265 h_267 h_268 h_270 h_271 h_272 h_274 h_98 h_238 h_239 h_269 h_273; omega) | omega⟩, by decide, by decide⟩ ?_
      refine q_iload_n rfl rfl ?_
      refine q_iret rfl rfl ?_
      have hI_281 := iw_41_5 (v := (nx F y_6 (c_13 1 2))) hI_276 ⟨by first | (clear ha1 hq0 h_1 h_2 h_3 h_4 h_17 h_95 h_97 h_206 h_207 h_208 h_211 h_212 h_218 h_219 h_220 h_221 h_222 h_217 h_240 h_235 h_241 h_236 h_242 h_237 h_243 h_262 h_263 h_264 h_265 h_267 h_268 h_270 h_271 h_272 h_274 h_98 h_238 h_239 h_269 h_273; omega) | omega, by first | (clear ha1 h_1 h_2 h_3 h_4 h_17 h_94 h_95 h_96 h_97 h_206 h_207 h_208 h_211 h_212 h_218 h_219 h_220 h_221 h_222 h_217 h_240 h_235 h_241 h_236 h_242 h_237 h_243 h_262 h_263 h_264 h_265 h_267 h_268 h_270 h_271 h_272 h_274 h_98 h_238 h_239 h_269 h_273; omega) | omega⟩
      have hI_282 := iw_41_6 (v := 1) hI_281 ⟨by decide, by decide⟩
      have hI_283 := iw_41_8 (v := (nx F y_6 (c_13 1 2))) hI_282 ⟨by first | (clear ha1 hq0 h_1 h_2 h_3 h_4 h_17 h_95 h_97 h_206 h_207 h_208 h_211 h_212 h_218 h_219 h_220 h_221 h_222 h_217 h_240 h_235 h_241 h_236 h_242 h_237 h_243 h_262 h_263 h_264 h_265 h_267 h_268 h_270 h_271 h_272 h_274 h_98 h_238 h_239 h_269 h_273; omega) | omega, by first | (clear ha1 h_1 h_2 h_3 h_4 h_17 h_94 h_95 h_96 h_97 h_206 h_207 h_208 h_211 h_212 h_218 h_219 h_220 h_221 h_222 h_217 h_240 h_235 h_241 h_236 h_242 h_237 h_243 h_262 h_263 h_264 h_265 h_267 h_268 h_270 h_271 h_272 h_274 h_98 h_238 h_239 h_269 h_273; omega) | omega⟩
      have kn_284 : Hid (c_231 41 2 = c_214 41 2) := (hF_233 41 2 (fun q => q.elim (fun h => absurd h.2 (ni rfl)) (fun q => q.elim (fun h => absurd h.2 (ni rfl)) (fun q => q.elim (fun h => absurd h.2 (ni rfl)) (fun q => q.elim (fun h => absurd h.2 (ni rfl)) (fun q => q.elim (fun h => absurd h.2 (ni rfl)) (fun q => q.elim (fun h => absurd h (nn rfl)) (fun h => absurd h (nn rfl))))))))).trans (up_n (by decide))
      have kn_285 : Hid (c_275 41 2 = c_214 41 2) := (hF_277 41 2 (fun h => absurd h.2 (ni rfl))).trans (hid kn_284)
      have h_286 : (up (up (up c_275 41 5 (nx F y_6 (c_13 1 2))) 41 6 1) 41 8 (nx F y_6 (c_13 1 2))) 41 2 = c_214 41 2 := ((up_n (by decide)).trans ((up_n (by decide)).trans ((up_n (by decide)).trans (hid kn_285))))
      have h_287 : (up (up (up c_275 41 5 (nx F y_6 (c_13 1 2))) 41 6 1) 41 8 (nx F y_6 (c_13 1 2))) 41 8 = (nx F y_6 (c_13 1 2)) := (up_e rfl)
      have kn_288 : Hid (c_214 41 0 = 0) := (hF_216 41 0 (fun q => q.elim (fun h => absurd h.2 (ni rfl)) (fun q => q.elim (fun h => absurd h.2 (ni rfl)) (fun q => q.elim (fun h => absurd h.2 (ni rfl)) (fun q => q.elim (fun h => absurd h.2 (ni rfl)) (fun q => q.elim (fun h => absurd h.2 (ni rfl)) (fun h => absurd h.2 (ni rfl)))))))).trans (up_e rfl)
      have kn_289 : Hid (c_231 41 0 = 0) := (hF_233 41 0 (fun q => q.elim (fun h => absurd h.2 (ni rfl)) (fun q => q.elim (fun h => absurd h.2 (ni rfl)) (fun q => q.elim (fun h => absurd h.2 (ni rfl)) (fun q => q.elim (fun h => absurd h.2 (ni rfl)) (fun q => q.elim (fun h => absurd h.2 (ni rfl)) (fun q => q.elim (fun h => absurd h (nn rfl)) (fun h => absurd h (nn rfl))))))))).trans ((up_n (by decide)).trans (hid kn_288))
      have kn_290 : Hid (c_275 41 0 = 0) := (hF_277 41 0 (fun h => absurd h.2 (ni rfl))).trans (hid kn_289)
      have h_291 : (up (up (up c_275 41 5 (nx F y_6 (c_13 1 2))) 41 6 1) 41 8 (nx F y_6 (c_13 1 2))) 41 0 = 0 := ((up_n (by decide)).trans ((up_n (by decide)).trans ((up_n (by decide)).trans (hid kn_290))))
      have kn_292 : Hid (c_214 41 30 = nl) := (hF_216 41 30 (fun q => q.elim (fun h => absurd h.2 (ni rfl)) (fun q => q.elim (fun h => absurd h.2 (ni rfl)) (fun q => q.elim (fun h => absurd h.2 (ni rfl)) (fun q => q.elim (fun h => absurd h.2 (ni rfl)) (fun q => q.elim (fun h => absurd h.2 (ni rfl)) (fun h => absurd h.2 (ni rfl)))))))).trans ((up_n (by decide)).trans (hr_nl))
      have kn_293 : Hid (c_231 41 30 = nl) := (hF_233 41 30 (fun q => q.elim (fun h => absurd h.2 (ni rfl)) (fun q => q.elim (fun h => absurd h.2 (ni rfl)) (fun q => q.elim (fun h => absurd h.2 (ni rfl)) (fun q => q.elim (fun h => absurd h.2 (ni rfl)) (fun q => q.elim (fun h => absurd h.2 (ni rfl)) (fun q => q.elim (fun h => absurd h (nn rfl)) (fun h => absurd h (nn rfl))))))))).trans ((up_n (by decide)).trans (hid kn_292))
      have kn_294 : Hid (c_275 41 30 = nl) := (hF_277 41 30 (fun h => absurd h.2 (ni rfl))).trans (hid kn_293)
      have h_295 : (up (up (up c_275 41 5 (nx F y_6 (c_13 1 2))) 41 6 1) 41 8 (nx F y_6 (c_13 1 2))) 41 30 = nl := ((up_n (by decide)).trans ((up_n (by decide)).trans ((up_n (by decide)).trans (hid kn_294))))
      have h_296 : (up (up (up c_275 41 5 (nx F y_6 (c_13 1 2))) 41 6 1) 41 8 (nx F y_6 (c_13 1 2))) 41 30 = nl := ((up_n (by decide)).trans ((up_n (by decide)).trans ((up_n (by decide)).trans (hid kn_294))))
      have hA_297 : Ce nl ((up (up c_99 1 4 1) 1 5 (nx F y_6 (c_13 1 2))) (P + 8)) ((up (up (up c_275 41 5 (nx F y_6 (c_13 1 2))) 41 6 1) 41 8 (nx F y_6 (c_13 1 2))) 52) ((up (up (up c_275 41 5 (nx F y_6 (c_13 1 2))) 41 6 1) 41 8 (nx F y_6 (c_13 1 2))) 53) := ce_fr hr0 (fun j => (up_c (np hP rfl rfl)).trans ((up_c (np hP rfl rfl)).trans ((hF_101 (P + 8) j (fun h => absurd h.1 (np hP rfl rfl))).trans ((hF_15 (P + 8) j (fun q => q.elim (fun h => absurd h.1 (np hP rfl rfl)) (fun q => q.elim (fun h => absurd h.1 (np hP rfl rfl)) (fun q => q.elim (fun h => absurd h.1 (np hP rfl rfl)) (fun q => q.elim (fun h => absurd h.1 (pp rfl)) (fun h => absurd h (pp rfl))))))).trans ((up_c (pp rfl)).trans ((up_c (np hP rfl rfl)).trans ((up_c (np hP rfl rfl)).trans ((up_c (np hP rfl rfl)).trans ((up_c (np hP rfl rfl)).trans (up_c (np hP rfl rfl))))))))))) (fun j => (up_c (nn rfl)).trans ((up_c (nn rfl)).trans ((up_c (nn rfl)).trans ((hF_277 52 j (fun h => absurd h.1 (nn rfl))).trans ((hF_233 52 j (fun q => q.elim (fun h => absurd h.1 (nn rfl)) (fun q => q.elim (fun h => absurd h.1 (nn rfl)) (fun q => q.elim (fun h => absurd h.1 (nn rfl)) (fun q => q.elim (fun h => absurd h.1 (nn rfl)) (fun q => q.elim (fun h => absurd h.1 (nn rfl)) (fun q => q.elim (fun h => absurd h (nn rfl)) (fun h => absurd h (nn rfl))))))))).trans ((up_c (nn rfl)).trans ((hF_216 52 j (fun q => q.elim (fun h => absurd h.1 (nn rfl)) (fun q => q.elim (fun h => absurd h.1 (nn rfl)) (fun q => q.elim (fun h => absurd h.1 (nn rfl)) (fun q => q.elim (fun h => absurd h.1 (nn rfl)) (fun q => q.elim (fun h => absurd h.1 (nn rfl)) (fun h => absurd h.1 (nn rfl)))))))).trans (up_c (nn rfl))))))))) (fun j => (up_c (nn rfl)).trans ((up_c (nn rfl)).trans ((up_c (nn rfl)).trans ((hF_277 53 j (fun h => absurd h.1 (nn rfl))).trans ((hF_233 53 j (fun q => q.elim (fun h => absurd h.1 (nn rfl)) (fun q => q.elim (fun h => absurd h.1 (nn rfl)) (fun q => q.elim (fun h => absurd h.1 (nn rfl)) (fun q => q.elim (fun h => absurd h.1 (nn rfl)) (fun q => q.elim (fun h => absurd h.1 (nn rfl)) (fun q => q.elim (fun h => absurd h (nn rfl)) (fun h => absurd h (nn rfl))))))))).trans ((up_c (nn rfl)).trans ((hF_216 53 j (fun q => q.elim (fun h => absurd h.1 (nn rfl)) (fun q => q.elim (fun h => absurd h.1 (nn rfl)) (fun q => q.elim (fun h => absurd h.1 (nn rfl)) (fun q => q.elim (fun h => absurd h.1 (nn rfl)) (fun q => q.elim (fun h => absurd h.1 (nn rfl)) (fun h => absurd h.1 (nn rfl)))))))).trans (up_c (nn rfl)))))))))
      have hA_298 : Ce nl (m9 (P + 8)) ((up (up (up c_275 41 5 (nx F y_6 (c_13 1 2))) 41 6 1) 41 8 (nx F y_6 (c_13 1 2))) 52) ((up (up (up c_275 41 5 (nx F y_6 (c_13 1 2))) 41 6 1) 41 8 (nx F y_6 (c_13 1 2))) 53) := ce_l hA_297 (fun j h1 h2 => wd_av hW (ck_p8 hP) (ck_p8 hP) (by decide) (a68 hP rfl) ⟨h1, by omega⟩ rfl (ir_p8 hI_204 hP j) (ir_p8 hJ9 hP j))
      exact K (up (up (up c_275 41 5 (nx F y_6 (c_13 1 2))) 41 6 1) 41 8 (nx F y_6 (c_13 1 2))) (-9) hI_283 (fun a j hm => (up_b (Decidable.or_iff_not_imp_left.mpr (fun h1 h2 => hm (Or.inr (Or.inr (Or.inr (Or.inr (Or.inr (Or.inr (Or.inr (Or.inr (Or.inl ⟨Decidable.not_not.mp h1, h2⟩)))))))))))).trans ((up_b (Decidable.or_iff_not_imp_left.mpr (fun h1 h2 => hm (Or.inr (Or.inr (Or.inr (Or.inr (Or.inr (Or.inr (Or.inl ⟨Decidable.not_not.mp h1, h2⟩)))))))))).trans ((up_b (Decidable.or_iff_not_imp_left.mpr (fun h1 h2 => hm (Or.inr (Or.inr (Or.inr (Or.inr (Or.inr (Or.inl ⟨Decidable.not_not.mp h1, h2⟩))))))))).trans ((hF_277 a j (fun h => hm (Or.inr (Or.inr (Or.inr (Or.inr (Or.inl h))))))).trans ((hF_233 a j (fun q => q.elim (fun h => hm (Or.inr (Or.inr (Or.inr (Or.inr (Or.inl h)))))) (fun q => q.elim (fun h => hm (Or.inr (Or.inr (Or.inr (Or.inr (Or.inr (Or.inl h))))))) (fun q => q.elim (fun h => hm (Or.inr (Or.inr (Or.inr (Or.inr (Or.inr (Or.inr (Or.inl h)))))))) (fun q => q.elim (fun h => hm (Or.inr (Or.inr (Or.inr (Or.inr (Or.inr (Or.inr (Or.inr (Or.inl h))))))))) (fun q => q.elim (fun h => hm (Or.inr (Or.inr (Or.inr (Or.inr (Or.inr (Or.inr (Or.inr (Or.inr (Or.inr (Or.inl h))))))))))) (fun q => q.elim (fun h => hm (Or.inr (Or.inr (Or.inr (Or.inr (Or.inr (Or.inr (Or.inr (Or.inr (Or.inr (Or.inr (Or.inr (Or.inl h))))))))))))) (fun h => hm (Or.inr (Or.inr (Or.inr (Or.inr (Or.inr (Or.inr (Or.inr (Or.inr (Or.inr (Or.inr (Or.inr (Or.inr (Or.inl h))))))))))))))))))))).trans ((up_b (Decidable.or_iff_not_imp_left.mpr (fun h1 h2 => hm (Or.inr (Or.inr (Or.inr (Or.inr (Or.inr (Or.inr (Or.inr (Or.inr (Or.inr (Or.inl ⟨Decidable.not_not.mp h1, h2⟩))))))))))))).trans ((hF_216 a j (fun q => q.elim (fun h => hm (Or.inr (Or.inr (Or.inl h)))) (fun q => q.elim (fun h => hm (Or.inr (Or.inr (Or.inr (Or.inl h))))) (fun q => q.elim (fun h => hm (Or.inr (Or.inr (Or.inr (Or.inr (Or.inl h)))))) (fun q => q.elim (fun h => hm (Or.inr (Or.inr (Or.inr (Or.inr (Or.inr (Or.inl h))))))) (fun q => q.elim (fun h => hm (Or.inr (Or.inr (Or.inr (Or.inr (Or.inr (Or.inr (Or.inr (Or.inl h))))))))) (fun h => hm (Or.inr (Or.inr (Or.inr (Or.inr (Or.inr (Or.inr (Or.inr (Or.inr (Or.inl h)))))))))))))))).trans (up_b (Decidable.or_iff_not_imp_left.mpr (fun h1 h2 => hm (Or.inl ⟨Decidable.not_not.mp h1, h2⟩))))))))))) ⟨by omega, by omega⟩ (by first | (clear ha1 hq0 h_1 h_2 h_3 h_4 h_17 h_94 h_95 h_96 h_97 h_207 h_208 h_211 h_212 h_218 h_219 h_220 h_221 h_222 h_217 h_240 h_235 h_241 h_236 h_242 h_237 h_243 h_262 h_263 h_264 h_265 h_267 h_268 h_270 h_271 h_272 h_274 h_98 h_238 h_239 h_269 h_273; omega) | omega) (by first | (clear ha1 hq0 h_1 h_2 h_3 h_4 h_17 h_94 h_95 h_96 h_97 h_206 h_207 h_208 h_211 h_212 h_219 h_220 h_221 h_222 h_240 h_235 h_241 h_236 h_242 h_237 h_243 h_262 h_263 h_264 h_265 h_267 h_268 h_270 h_271 h_272 h_274 h_98 h_238 h_239 h_269 h_273; omega) | omega) (by first | (clear ha1 hq0 h_1 h_2 h_3 h_4 h_17 h_94 h_95 h_96 h_97 h_206 h_207 h_211 h_212 h_218 h_219 h_220 h_221 h_222 h_217 h_240 h_235 h_241 h_236 h_242 h_237 h_243 h_262 h_263 h_264 h_265 h_267 h_268 h_270 h_271 h_272 h_274 h_98 h_238 h_239 h_269 h_273; omega) | omega) (by first | (clear ha1 hq0 h_1 h_2 h_3 h_4 h_17 h_94 h_95 h_96 h_97 h_206 h_207 h_208 h_211 h_212 h_218 h_219 h_220 h_221 h_222 h_217 h_240 h_235 h_241 h_236 h_242 h_237 h_243 h_262 h_263 h_264 h_265 h_267 h_268 h_270 h_271 h_272 h_274 h_98 h_238 h_239 h_269 h_273; omega) | omega) (by first | (clear ha1 hq0 h_1 h_2 h_3 h_4 h_17 h_94 h_95 h_96 h_97 h_206 h_207 h_208 h_211 h_218 h_219 h_220 h_221 h_222 h_217 h_240 h_235 h_241 h_236 h_242 h_237 h_243 h_262 h_263 h_264 h_265 h_267 h_268 h_270 h_271 h_272 h_274 h_98 h_238 h_239 h_269 h_273; omega) | omega) (ce_le hA_298 (by omega))

