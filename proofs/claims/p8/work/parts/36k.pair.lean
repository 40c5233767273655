/-! ===== class and reference side by side 12 ===== -/
theorem q_e7730a011 {x0 x1 x2 x3 x4 : Int} (f0 : x0 ≥ 150) (f1 : (x1 < x2 ∧ x3 = x4) ∨ (x2 ≤ x1 ∧ x3 = 0)) (f2 : (x2 ≤ 150)) (f3 : (x0 ≤ x1)) : ¬ x3 = 43 := by omega
theorem q_9e1581db4 {x0 x1 x2 x3 x4 : Int} (f0 : x0 ≥ 150) (f1 : (x1 < x2 ∧ x3 = x4) ∨ (x2 ≤ x1 ∧ x3 = 0)) (f2 : (x2 ≤ 150)) (f3 : (x0 ≤ x1)) : ¬ x3 = 45 := by omega
theorem q_fb95706d0 {x0 x1 x2 : Int} (f0 : (x0 < x1 ∧ x2 = 43)) (f1 : (x1 ≤ 150)) : x0 < 600 := by omega
theorem q_e88b22bc2 {x0 x1 x2 : Int} (f0 : (x0 < x1 ∧ x2 = 43)) : ¬ x2 = 32 := by omega
theorem q_9eaf88dc1 {x0 x1 x2 : Int} (f0 : (x0 < x1 ∧ x2 = 43)) : (x0 + 1) ≤ x1 := by omega
theorem q_1c905e1ef {x0 x1 x2 : Int} (f0 : (x0 < x1 ∧ x2 = 45)) (f1 : (x1 ≤ 150)) : x0 < 600 := by omega
theorem q_648909069 {x0 x1 x2 : Int} (f0 : (x0 < x1 ∧ x2 = 45)) : ¬ x2 = 32 := by omega
theorem q_59aea9c2a {x0 x1 x2 : Int} (f0 : (x0 < x1 ∧ x2 = 45)) : (x0 + 1) ≤ x1 := by omega
theorem q_2009c8adc {x0 x1 x2 x3 x4 x5 x6 : Int} (f0 : x0 ≤ x1 ∧ x1 ≤ x2) (f1 : x3 = x1) (f2 : (x4 + x5 ≤ x0 + x6)) : x4 + x5 ≤ x3 + x6 := by omega
theorem q_eceb3d3ad {x0 x1 x2 x3 : Int} (f0 : x0 ≤ x1 ∧ x1 ≤ x2) (f1 : x3 = x1) : x3 ≤ x2 := by omega
theorem q_79e920e69 {x0 x1 x2 x3 x4 : Int} (f0 : x0 ≤ x1 ∧ x1 ≤ x2) (f1 : x3 = x1) (f2 : (x0 ≥ x4)) : x4 ≤ x3 := by omega
theorem q_d12bc8d2a {x0 x1 : Int} (f0 : (x0 ≥ 0 ∧ x0 ≤ x1 ∧ x0 ≤ 150)) : 0 ≤ x0 := by omega
theorem q_5ade8dffc {x0 x1 : Int} (f0 : (x0 ≥ 0 ∧ x0 ≤ x1 ∧ x0 ≤ 150)) : x0 ≤ x1 := by omega
theorem q_c25acb4df {x0 x1 : Int} (f0 : (x0 ≥ 0 ∧ x0 ≤ x1 ∧ x0 ≤ 150)) : x0 ≤ 150 := by omega
theorem q_f37fc148c {x0 x1 : Int} (f0 : (x0 ≥ 0 ∧ x0 ≤ x1 ∧ x0 ≤ 150)) : x0 ≤ 600 := by omega
theorem q_347fb3ff8 {x0 x1 x2 x3 x4 x5 x6 : Int} (f0 : (x0 = x1 ∧ x2 = 0 ∧ x3 = (-1) ∧ x4 = 0 ∧ x5 = 0)) (f1 : (x1 ≥ 0 ∧ x1 ≤ x6 ∧ x1 ≤ 150)) : x0 ≤ 150 := by omega
theorem qn_d0959c513 : ¬ (((41 : Nat) = 41 ∧ (0 : Int) = 4) ∨ ((41 : Nat) = 41 ∧ (0 : Int) = 5) ∨ ((41 : Nat) = 41 ∧ (0 : Int) = 6) ∨ ((41 : Nat) = 41 ∧ (0 : Int) = 7) ∨ ((41 : Nat) = 41 ∧ (0 : Int) = 29) ∨ (41 : Nat) = 50 ∨ (41 : Nat) = 51) := (fun q => q.elim (fun h => absurd h.2 (ni rfl)) (fun q => q.elim (fun h => absurd h.2 (ni rfl)) (fun q => q.elim (fun h => absurd h.2 (ni rfl)) (fun q => q.elim (fun h => absurd h.2 (ni rfl)) (fun q => q.elim (fun h => absurd h.2 (ni rfl)) (fun q => q.elim (fun h => absurd h (nn rfl)) (fun h => absurd h (nn rfl))))))))
theorem qn_5c4bc69a3 {P : Nat} (hP : P = 13 ∨ P = 25) : ¬ (((1 : Nat) = 1 ∧ (1 : Int) = 2) ∨ ((1 : Nat) = 1 ∧ (1 : Int) = 4) ∨ ((1 : Nat) = 1 ∧ (1 : Int) = 5) ∨ ((1 : Nat) = (P + 7) ∧ (1 : Int) = 5) ∨ (1 : Nat) = (P + 9)) := (fun q => q.elim (fun h => absurd h.2 (ni rfl)) (fun q => q.elim (fun h => absurd h.2 (ni rfl)) (fun q => q.elim (fun h => absurd h.2 (ni rfl)) (fun q => q.elim (fun h => absurd h.1 (pn hP rfl rfl)) (fun h => absurd h (pn hP rfl rfl))))))
theorem qn_9af0f33f6 {P : Nat} {j : Int} (hP : P = 13 ∨ P = 25) : ¬ (((2 : Nat) = 1 ∧ j = 2) ∨ ((2 : Nat) = 1 ∧ j = 4) ∨ ((2 : Nat) = 1 ∧ j = 5) ∨ ((2 : Nat) = (P + 7) ∧ j = 5) ∨ (2 : Nat) = (P + 9)) := (fun q => q.elim (fun h => absurd h.1 (nn rfl)) (fun q => q.elim (fun h => absurd h.1 (nn rfl)) (fun q => q.elim (fun h => absurd h.1 (nn rfl)) (fun q => q.elim (fun h => absurd h.1 (pn hP rfl rfl)) (fun h => absurd h (pn hP rfl rfl))))))
theorem q_d88b6b7cb {x0 x1 x2 x3 x4 x5 x6 x7 x8 x9 : Int} (f0 : (x0 = x1 ∧ x2 = 0 ∧ x3 = (-1) ∧ x4 = 0 ∧ x5 = 0)) (f1 : x6 ≤ x7 ∧ x7 ≤ x0) (f2 : x7 = x8) (f3 : (x1 ≥ 0 ∧ x1 ≤ x9 ∧ x1 ≤ 150)) : x8 < 600 := by omega
theorem q_0deb8d529 {x0 x1 x2 x3 : Int} (f0 : 0 ≤ x0 ∧ x0 ≤ 600) (f1 : x1 ≤ x2 ∧ x2 ≤ x0) (f2 : x2 = x3) : x3 ≤ 2147483647 := by omega
theorem q_4f240556c {x0 x1 x2 x3 x4 x5 : Int} (f0 : x0 = x1) (f1 : x2 = 0 ∧ x3 = -1 ∧ x4 = x5 ∧ x1 = -1) (f2 : (-1) ≤ x0 ∧ x0 ≤ 600) : (-1) = x0 := by omega
theorem q_27a274ef3 {x0 x1 x2 : Int} (f0 : 0 ≤ x0 ∧ x0 ≤ 600) (f1 : x0 ≤ x1 ∧ (x1 ≤ x2 ∨ x1 = x0)) : (-1) ≤ x1 := by omega
theorem q_510fc7fc1 {x0 x1 x2 : Int} (f0 : 0 ≤ x0 ∧ x0 ≤ 600) (f1 : x0 ≤ x1 ∧ (x1 ≤ x2 ∨ x1 = x0)) : ¬ x1 = (-1) := by omega
theorem q_6c173ba1b {x0 : Int} (f0 : x0 = (-9)) : (-9) = x0 := by omega
theorem qn_87df51461 : ¬ (((41 : Nat) = 41 ∧ (35 : Int) = 37) ∨ ((41 : Nat) = 41 ∧ (35 : Int) = 38) ∨ ((41 : Nat) = 41 ∧ (35 : Int) = 39) ∨ (41 : Nat) = 59 ∨ (41 : Nat) = 54 ∨ (41 : Nat) = 55) := (fun q => q.elim (fun h => absurd h.2 (ni rfl)) (fun q => q.elim (fun h => absurd h.2 (ni rfl)) (fun q => q.elim (fun h => absurd h.2 (ni rfl)) (fun q => q.elim (fun h => absurd h (nn rfl)) (fun q => q.elim (fun h => absurd h (nn rfl)) (fun h => absurd h (nn rfl)))))))
theorem q_d11430ef1 {x0 : Int} (f0 : (x0 ≤ 999)) : x0 ≤ 2147483647 := by omega
theorem q_c1ad76126 {x0 : Int} (f0 : (x0 ≥ 1)) : 1 ≤ x0 := by omega
theorem q_b4715533c {x0 x1 x2 x3 : Int} (f0 : 0 ≤ x0 ∧ x0 ≤ 600) (f1 : (x1 < x2 ∧ x3 ≥ 48 ∧ x3 ≤ 57)) (f2 : x0 = x2) : x1 ≤ 600 := by omega
theorem q_c1bde17fc {x0 x1 x2 x3 : Int} (f0 : x0 ≤ x1 ∧ (x1 ≤ x2 ∨ x1 = x0)) (f1 : 0 ≤ x3 ∧ x3 ≤ 600) (f2 : x3 = x0) : (-2147483648) ≤ x1 := by omega
theorem q_1a04c20dc {x0 x1 x2 x3 x4 : Int} (f0 : 0 ≤ x0 ∧ x0 ≤ 600) (f1 : x1 ≤ x2 ∧ (x2 ≤ x3 ∨ x2 = x1)) (f2 : 0 ≤ x4 ∧ x4 ≤ 600) (f3 : x4 = x1) (f4 : x0 = x3) : x2 ≤ 2147483647 := by omega
theorem q_c7f8f82fa {x0 x1 : Int} (f0 : (x0 ≠ 0)) (f1 : 0 ≤ x1 ∧ x1 ≤ 3) (f2 : x1 = x0) : ¬ x1 = 0 := by omega
set_option maxRecDepth 100000 in
set_option maxHeartbeats 4000000 in
theorem L_13_l {sc : List Int32} {e eg : Int} {d dh u ug P Q P2 Q2 A : Nat} {c m m9 : ME} {a2 e1 f0 g0 p0 n0 o0 : Int} {F H : Int → Int} {Z : AR → Prop} (hI : Iv u e P2 Q2 c) (hJ : Iv ug eg P Q m) (hJ9 : Iv ug eg P Q m9) (hA : A = 13 ∨ A = 25) (ha2 : 0 ≤ a2 ∧ a2 ≤ 6) (hq0 : (f0 = 0)) (hq1 : (g0 = (-1))) (hq2 : (o0 = a2)) (hq3 : (n0 ≤ p0)) (hq4 : (p0 ≤ e1)) (hq5 : (e1 ≤ 150)) (hg_e1 : m 1 1 = e1) (hr_e1 : c 41 3 = e1) (hg_f0 : m 1 4 = f0) (hg_g0 : m 1 5 = g0) (hg_p0 : m 1 2 = p0) (hg_n0 : m (A + 7) 5 = n0) (hr_n0 : c 41 29 = n0) (hr_o0 : c 41 7 = o0) (hF : ∀ j : Int, m 2 j = F j) (hH : ∀ j : Int, c 43 j = H j) (hU : Ub F H) (hRt : Rt m c) (hr0 : Ce n0 (m (A + 9)) (c 50) (c 51)) (H13 : ∀ {d9 : Nat} {c m m9 : ME} {e1 f0 g0 p0 n0 o0 : Int} {Z : AR → Prop}, d ≤ d9 → a2 + 1 ≤ 6 → (Iv u e P2 Q2 c) → (Iv ug eg P Q m) → (Iv ug eg P Q m9) → (0 ≤ (a2 + 1) ∧ (a2 + 1) ≤ 6) → ((f0 = 0)) → ((g0 = (-1))) → ((o0 = (a2 + 1))) → ((n0 ≤ p0)) → ((p0 ≤ e1)) → ((e1 ≤ 150)) → (m 1 1 = e1) → (c 41 3 = e1) → (m 1 4 = f0) → (m 1 5 = g0) → (m 1 2 = p0) → (m (A + 7) 5 = n0) → (c 41 29 = n0) → (c 41 7 = o0) → (∀ j : Int, m 2 j = F j) → (∀ j : Int, c 43 j = H j) → (Ub F H) → (Rt m c) → (Ce n0 (m (A + 9)) (c 50) (c 51)) → (Wp sc (dh + 33) 13 0 [(0, .ref (A + 7)), (1, .ref 1), (2, vi (a2 + 1))] [] (Wd P Q P P m) 0 0 (fun q => q = (.inl (none), Wd P Q P P m9, 0, 0))) → (∀ (c2 : ME), Iv u e P2 Q2 c2 → (∀ (a : Nat) (j : Int), ¬ ((a = 41 ∧ j = 4) ∨ (a = 41 ∧ j = 5) ∨ (a = 41 ∧ j = 6) ∨ (a = 41 ∧ j = 7) ∨ (a = 41 ∧ j = 29) ∨ a = 50 ∨ a = 51) → c2 a j = c a j) → (Rt m9 c2) → ((m9 1 4 < 0) ∨ (m9 1 4 > 0) ∨ (m9 (A + 7) 5 = c2 41 29 ∧ c2 41 29 + p0 ≤ m9 1 2 + n0 ∧ m9 1 2 ≤ e1 ∧ m9 1 2 ≥ p0)) → ((c2 41 7 = (a2 + 1))) → (m9 1 4 = 0 → Ce (c2 41 29) (m9 (A + 9)) (c2 50) (c2 51)) → Z (.inl (none), Wd P2 Q2 P2 P2 c2, 0, 0)) → Wp sc (d9 + 32) 174 0 [(0, .ref 41)] [] (Wd P2 Q2 P2 P2 c) 0 0 Z) (K : ∀ (c2 : ME), Iv u e P2 Q2 c2 → (∀ (a : Nat) (j : Int), ¬ ((a = 41 ∧ j = 4) ∨ (a = 41 ∧ j = 5) ∨ (a = 41 ∧ j = 6) ∨ (a = 41 ∧ j = 7) ∨ (a = 41 ∧ j = 29) ∨ a = 50 ∨ a = 51) → c2 a j = c a j) → (Rt m9 c2) → ((m9 1 4 < 0) ∨ (m9 1 4 > 0) ∨ (m9 (A + 7) 5 = c2 41 29 ∧ c2 41 29 + p0 ≤ m9 1 2 + n0 ∧ m9 1 2 ≤ e1 ∧ m9 1 2 ≥ p0)) → ((c2 41 7 = a2)) → (m9 1 4 = 0 → Ce (c2 41 29) (m9 (A + 9)) (c2 50) (c2 51)) → Z (.inl (none), Wd P2 Q2 P2 P2 c2, 0, 0)) : ∀ n : Nat, (∀ (c2 m2 : ME) (v : Int) (a : Int) (nw : Int), Iv u e P2 Q2 c2 → (∀ (a : Nat) (j : Int), ¬ ((a = 41 ∧ j = 4) ∨ (a = 41 ∧ j = 5) ∨ (a = 41 ∧ j = 6) ∨ (a = 41 ∧ j = 7) ∨ (a = 41 ∧ j = 29) ∨ a = 50 ∨ a = 51) → c2 a j = c a j) → Iv ug eg P Q m2 → (∀ (a : Nat) (j : Int), ¬ ((a = 1 ∧ j = 2) ∨ (a = 1 ∧ j = 4) ∨ (a = 1 ∧ j = 5) ∨ (a = (A + 7) ∧ j = 5) ∨ a = (A + 9)) → m2 a j = m a j) → 0 ≤ v ∧ v ≤ 150 → 0 ≤ a ∧ a ≤ 600 → 0 ≤ nw ∧ nw ≤ 150 → m2 1 2 = a → c2 41 4 = a → m2 (A + 7) 5 = nw → c2 41 29 = nw → m2 1 4 = 0 → c2 41 5 = (-1) → m2 1 5 = (-1) → c2 41 7 = a2 → ((nw + p0 ≤ a + n0)) → ((a ≥ p0)) → ((a ≤ e1)) → ((v ≤ a)) → (Ce nw (m2 (A + 9)) (c2 50) (c2 51)) → Wp sc (dh + 36) 13 8 [(0, .ref (A + 7)), (1, .ref 1), (2, vi a2), (3, vi v)] [] (Wd P Q P P m2) 0 0 (fun q => q = (.inl (none), Wd P Q P P m9, 0, 0)) → 601 - a < (n : Int) → Wp sc (d + 36) 174 4 [(0, .ref 41)] [] (Wd P2 Q2 P2 P2 c2) 0 0 Z)
  | 0 => by intro c2 m2 v a nw hI2 hFc hJ2 hFm hv ha hnw hg_a hr_a hg_nw hr_nw hc_0 hc_1 hc_2 hc_3 hx0 hx1 hx2 hx3 hrl0 hG2 hm9; exfalso; omega
  | n + 1 => by
    have hP := iv_P hJ
    have hQ := iv_Q hJ
    have ih := L_13_l (sc := sc) (d := d) (dh := dh) hI hJ hJ9 hA ha2 hq0 hq1 hq2 hq3 hq4 hq5 hg_e1 hr_e1 hg_f0 hg_g0 hg_p0 hg_n0 hr_n0 hr_o0 hF hH hU hRt hr0 H13 K n
    intro c2 m2 v a nw hI2 hFc hJ2 hFm hv ha hnw hg_a hr_a hg_nw hr_nw hc_0 hc_1 hc_2 hc_3 hx0 hx1 hx2 hx3 hrl0 hG2 hm9
    have h_1 := ir_1_1 hJ
    have h_2 := ir_41_3 hI
    have h_3 := ir_1_4 hJ
    have h_4 := ir_1_5 hJ
    have h_5 := ir_1_2 hJ
    have h_6 := ir_p7_5 hJ hA
    have h_7 := ir_41_29 hI
    have h_8 := ir_41_7 hI
    have h_9 := ir_1_2 hJ2
    have h_10 := ir_41_4 hI2
    have h_11 := ir_p7_5 hJ2 hA
    have h_12 := ir_41_29 hI2
    have h_13 := ir_1_4 hJ2
    have h_14 := ir_41_5 hI2
    have h_15 := ir_1_5 hJ2
    have h_16 := ir_41_7 hI2
    refine gh hG2 (q_iload_n c_13_8 rfl (v_sip c_13_9 (by decide) ?_))
    by_cases h_17 : v ≥ 150
    · refine v_ic_ge_t (t := 59) c_13_12 rfl ⟨by decide, h_17, (Int.le_trans hv.2 (by decide))⟩ (q_vret rfl rfl ?_)
      intro hE_18
      have hW : Wd P Q P P m2 = Wd P Q P P m9 := (Prod.mk.inj (Prod.mk.inj hE_18).2).1
      have h_19 := ir_1_4 hJ9
      have h_20 : m9 1 4 = 0 := wd_fv (z := 4) 4 rfl hW rfl rfl rfl rfl (by decide) (hc_0) ⟨by decide, by decide⟩ ⟨(Int.le_trans (by decide) h_19.1), (Int.le_trans h_19.2 (by decide))⟩
      have h_21 := ir_1_2 hJ9
      have h_22 : m9 1 2 = a := wd_fv (z := 2) 2 rfl hW rfl rfl rfl rfl (by decide) (hg_a) ⟨(Int.le_trans (by decide) ha.1), (Int.le_trans ha.2 (by decide))⟩ ⟨(Int.le_trans (by decide) h_21.1), (Int.le_trans h_21.2 (by decide))⟩
      have h_23 := ir_1_5 hJ9
      have h_24 : m9 1 5 = (-1) := wd_fv (z := 5) 5 rfl hW rfl rfl rfl rfl (by decide) (hc_2) ⟨by decide, by decide⟩ ⟨(Int.le_trans (by decide) h_23.1), (Int.le_trans h_23.2 (by decide))⟩
      have h_25 := ir_p7_5 hJ9 hA
      have h_26 : m9 (A + 7) 5 = nw := wd_fv (z := 5) 5 rfl hW (ck_p7 hA) (ck_p7 hA) rfl rfl (a68 hA rfl) (hg_nw) ⟨(Int.le_trans (by decide) hnw.1), (Int.le_trans hnw.2 (by decide))⟩ ⟨(Int.le_trans (by decide) h_25.1), (Int.le_trans h_25.2 (by decide))⟩
      refine q_aload_n c_174_4 rfl (v_cv c_174_5 km_8_131 rfl rfl (Nat.le_of_ble_eq_true rfl) ⟨⟨rfl, rfl⟩, Nat.le_of_ble_eq_true rfl, rfl⟩ (Nat.le_of_ble_eq_true rfl) (Nat.le_of_ble_eq_true rfl) (q_aload_n c_152_0 rfl (v_gi (z := 5) (v := (-1)) c_152_1 kf_8_102 rfl (Nat.le_of_ble_eq_true rfl) rfl rfl (hc_1) (q_iconst c_152_4 (v_ic_ne_f (t := 12) c_152_5 rfl (by decide) (q_iconst c_152_8 (q_goto (t := 13) c_152_9 rfl ?_)))))))
      refine v_zret c_152_13 rfl (by decide) (bk_inl (v_if_eq_f (t := 67) c_174_8 rfl (by decide) (q_aload_n c_174_11 rfl ?_)))
      have kn_27 : Hid (c2 41 3 = e1) := (hFc 41 3 qn_d31ba9b5e).trans (hr_e1)
      have h_28 : -2147483648 ≤ (F a) ∧ (F a) ≤ 2147483647 := by rw [← hF a]; exact ir_2 hJ a
      have h_29 : -2147483648 ≤ (H a) ∧ (H a) ≤ 2147483647 := by rw [← hH a]; exact ir_43 hI a
      have h_30 := hU a (ha.1) (by first | exact q_32560c20b hq5 hx2 | omega)
      have h_31 := hb_or (b := H) (e := e1) (r := a)
      have h_32 := hb_bd (b := H) (e := e1) (r := a) (lo := -2147483648) (hi := 2147483647) h_29 (by decide)
      refine v_cv c_174_12 km_8_114 rfl rfl (Nat.le_of_ble_eq_true rfl) ⟨⟨rfl, rfl⟩, Nat.le_of_ble_eq_true rfl, rfl⟩ (Nat.le_of_ble_eq_true rfl) (Nat.le_of_ble_eq_true rfl) (f_154 (e1 := e1) (a9 := a) (B := H) (r8 := a) (r := (hb H e1 a)) hI2 ((hid kn_27)) ((hr_a)) (fun j => (hFc 43 j qn_9b8df3fcd).trans (hH j)) ((nx_tr hU (ha.1) ((rg_eq hg_e1 h_1).2)).trans ((nx_z (Or.inl (by first | exact q_bd75141fc h_17 hq5 hx3 | omega))))) rfl (fun c_33 hI_34 hF_35 h_36 => (bk_inl (v_bip c_174_15 (by decide) (v_ic_eq_f (t := 29) c_174_17 rfl ⟨by first | exact q_e7730a011 h_17 h_31 hq5 hx3 | omega, ⟨h_32.1, h_32.2⟩, by decide, by decide⟩ (q_aload_n c_174_20 rfl ?_))))))
      have kn_37 : Hid (c_33 41 3 = e1) := (hF_35 41 3 (fun h => absurd h.2 (ni rfl))).trans (hid kn_27)
      refine v_cv c_174_21 km_8_114 rfl rfl (Nat.le_of_ble_eq_true rfl) ⟨⟨rfl, rfl⟩, Nat.le_of_ble_eq_true rfl, rfl⟩ (Nat.le_of_ble_eq_true rfl) (Nat.le_of_ble_eq_true rfl) (f_154 (e1 := e1) (a9 := a) (B := H) (r8 := a) (r := (hb H e1 a)) hI_34 ((hid kn_37)) ((h_36)) (fun j => ((hF_35 43 j (fun h => absurd h.1 (nn rfl))).trans (hFc 43 j qn_9b8df3fcd)).trans (hH j)) ((nx_tr hU (ha.1) ((rg_eq hg_e1 h_1).2)).trans ((nx_z (Or.inl (by first | exact q_bd75141fc h_17 hq5 hx3 | omega))))) rfl (fun c_38 hI_39 hF_40 h_41 => (bk_inl (v_bip c_174_24 (by decide) (v_ic_ne_t (t := 67) c_174_26 rfl ⟨by first | exact q_9e1581db4 h_17 h_31 hq5 hx3 | omega, ⟨h_32.1, h_32.2⟩, by decide, by decide⟩ (q_vret rfl rfl ?_))))))
      have kn_42 : Hid (c_33 41 5 = (-1)) := (hF_35 41 5 (fun h => absurd h.2 (ni rfl))).trans (hc_1)
      have kn_43 : Hid (c_38 41 5 = (-1)) := (hF_40 41 5 (fun h => absurd h.2 (ni rfl))).trans (hid kn_42)
      have h_44 : c_38 41 5 = (-1) := (hid kn_43)
      have h_45 : c_38 41 4 = a := (h_41)
      have h_46 := ir_41_6 hI2
      have kn_47 : Hid (c_33 41 6 = c2 41 6) := hF_35 41 6 (fun h => absurd h.2 (ni rfl))
      have kn_48 : Hid (c_38 41 6 = c2 41 6) := (hF_40 41 6 (fun h => absurd h.2 (ni rfl))).trans (hid kn_47)
      have h_49 : c_38 41 6 = c2 41 6 := (hid kn_48)
      have kn_50 : Hid (c_33 41 29 = nw) := (hF_35 41 29 (fun h => absurd h.2 (ni rfl))).trans (hr_nw)
      have kn_51 : Hid (c_38 41 29 = nw) := (hF_40 41 29 (fun h => absurd h.2 (ni rfl))).trans (hid kn_50)
      have h_52 : c_38 41 29 = nw := (hid kn_51)
      have kn_53 : Hid (c_33 41 7 = a2) := (hF_35 41 7 (fun h => absurd h.2 (ni rfl))).trans (hc_3)
      have kn_54 : Hid (c_38 41 7 = a2) := (hF_40 41 7 (fun h => absurd h.2 (ni rfl))).trans (hid kn_53)
      have h_55 : c_38 41 7 = a2 := (hid kn_54)
      have h_56 : c_38 41 29 = nw := (hid kn_51)
      have hA_57 : Ce nw (m2 (A + 9)) (c_38 50) (c_38 51) := ce_fr hrl0 (fun j => rfl) (fun j => (hF_40 50 j (fun h => absurd h.1 (nn rfl))).trans (hF_35 50 j (fun h => absurd h.1 (nn rfl)))) (fun j => (hF_40 51 j (fun h => absurd h.1 (nn rfl))).trans (hF_35 51 j (fun h => absurd h.1 (nn rfl))))
      have hA_58 : Ce nw (m9 (A + 9)) (c_38 50) (c_38 51) := ce_l hA_57 (fun j h1 h2 => wd_av hW (ck_p9 hA) (ck_p9 hA) (by decide) (a68 hA rfl) ⟨h1, by omega⟩ rfl (ir_p9 hJ2 hA j) (ir_p9 hJ9 hA j))
      exact K c_38  hI_39 (fun a j hm => (hF_40 a j (fun h => hm (Or.inl h))).trans ((hF_35 a j (fun h => hm (Or.inl h))).trans (hFc a j hm))) (rt_i1 ⟨by first | exact q_f6b658f58 h_19 h_20 | omega, by first | assumption | omega, by first | exact q_88dc5fb99 h_22 | omega, by first | exact q_f39655ca6 h_23 h_24 | omega⟩) (Or.inr (Or.inr ⟨by first | exact q_d8da297ae h_26 | omega, by first | exact q_18fe70e09 h_22 hx0 | omega, by first | exact q_f88cd7f1e h_22 hx2 | omega, by first | exact q_13d560053 h_22 hx1 | omega⟩)) (by first | assumption | omega) (fun _ => ce_le hA_58 (by omega))
    · refine v_ic_ge_f (t := 59) c_13_12 rfl ⟨(Int.le_trans (by decide) hv.1), (Int.not_le.mp h_17), by decide⟩ (q_aload_n c_13_15 rfl (v_cv c_13_16 km_0_40 rfl rfl (Nat.le_of_ble_eq_true rfl) ⟨⟨rfl, rfl⟩, Nat.le_of_ble_eq_true rfl, rfl⟩ (Nat.le_of_ble_eq_true rfl) (Nat.le_of_ble_eq_true rfl) (q_aload_n c_2_0 rfl (v_gi (z := 4) (v := 0) c_2_1 kf_5_38 rfl (Nat.le_of_ble_eq_true rfl) rfl rfl (hc_0) (v_if_ne_f (t := 11) c_2_4 rfl (by decide) (q_iconst c_2_7 (q_goto (t := 12) c_2_8 rfl ?_)))))))
      refine v_zret c_2_12 rfl (by decide) (bk_inl (v_if_eq_f (t := 59) c_13_19 rfl (by decide) (q_aload_n c_13_22 rfl (q_ldc_s c_13_23 rfl rfl (by decide) ?_))))
      have kn_59 : Hid (m2 1 1 = e1) := (hFm 1 1 (qn_4df5db44f hA)).trans (hg_e1)
      have h_60 : -2147483648 ≤ (F a) ∧ (F a) ≤ 2147483647 := by rw [← hF a]; exact ir_2 hJ a
      have h_61 := nx_be (b := F) (e := e1) (a := a) (by first | exact q_eb7e24553 hx2 | omega)
      have h_62 : -2147483648 ≤ (F (nx F e1 a)) ∧ (F (nx F e1 a)) ≤ 2147483647 := by rw [← hF (nx F e1 a)]; exact ir_2 hJ (nx F e1 a)
      have h_63 := nx_n (b := F) (e := e1) (a := a)
      refine v_cv c_13_25 km_0_55 rfl rfl (Nat.le_of_ble_eq_true rfl) ⟨⟨rfl, rfl⟩, Nat.le_of_ble_eq_true rfl, rfl⟩ (Nat.le_of_ble_eq_true rfl) (Nat.le_of_ble_eq_true rfl) (f_4_7 (e1 := e1) (a9 := a) (B := F) (r8 := (nx F e1 a)) hJ2 ((hid kn_59)) ((hg_a)) (fun j => (hFm 2 j (qn_0eac3bbbd hA)).trans (hF j)) rfl (fun c_64 hI_65 hF_66 h_67 hz_68 => ?_) (fun c_69 hI_70 hF_71 h_72 hz_73 => ?_) (fun c_74 hI_75 hF_76 h_77 hz_78 => ?_))
      · as_aux_lemma =>
          skip
          refine bk_inl (q_istore c_13_28 (Nat.le_of_ble_eq_true rfl) (q_iload c_13_30 rfl (q_iconst c_13_32 (v_ic_ne_t (t := 37) c_13_33 rfl (by decide) (q_aload_n c_13_37 rfl (q_aload_n c_13_38 rfl (q_iload_n c_13_39 rfl ?_)))))))
          have kn_79 : Hid (c_64 1 4 = 0) := (hF_66 1 4 (fun h => absurd h.2 (ni rfl))).trans (hc_0)
          refine v_cv c_13_40 km_0_50 rfl (ck_p7 hA) (a68 hA rfl) ⟨⟨rfl, rfl⟩, by decide, rfl⟩ (Nat.le_of_ble_eq_true rfl) (Nat.le_of_ble_eq_true rfl) (fn_of (r_12 (a2 := a2) hI_65 hA (show 0 ≤ a2 ∧ a2 ≤ 6 from ha2) (fun c_80 hI_81 hF_82 => ?_)))
          intro hG_83
          refine bk_inl (q_aload_n c_13_43 rfl (v_sip c_13_44 (by decide) (q_iload c_13_47 rfl (v_iadd (v := 2000) c_13_49 (by decide) (v_cv c_13_50 km_0_59 rfl (ck_p7 hA) (a68 hA rfl) ⟨⟨rfl, rfl⟩, by decide, rfl⟩ (Nat.le_of_ble_eq_true rfl) (Nat.le_of_ble_eq_true rfl) (q_aload_n c_5_0 rfl ?_))))))
          have h_84 := ir_p7_5 hI_81 hA
          refine v_gi (z := 5) (v := c_80 (A + 7) 5) c_5_1 kf_0_28 (ck_p7 hA) (a68 hA rfl) rfl rfl rfl (q_aload_n c_5_4 rfl (v_gr (t := (A + 9)) c_5_5 kf_0_15 (ck_p7 hA) (a68 hA rfl) rfl (v_al c_5_8 (ck_p9 hA) (a68 hA rfl) (by decide) ?_)))
          by_cases h_85 : c_80 (A + 7) 5 ≥ 150
          · refine v_ic_ge_t (t := 32) c_5_9 rfl ⟨by decide, h_85, (Int.le_trans h_84.2 (by decide))⟩ (q_vret rfl rfl (bk_inl (v_iinc (v := v + 1) c_13_53 rfl (Nat.le_of_ble_eq_true rfl) rfl (q_goto (t := 8) c_13_56 rfl ?_))))
            have h_86 := ir_1_4 hI_81
            by_cases h_87 : c_80 1 4 = 0
            · skip
              refine Wp_ls [(0, .ref (A + 7)), (1, .ref 1), (2, vi a2), (3, vi (v + 1))] (lsub_cons rfl (lsub_cons rfl (lsub_cons rfl (lsub_cons rfl lsub_nil)))) (gh_stop ((s_13_l (sc := sc) (d := dh + 22) (c := c_80) (a2 := a2) (Z := fun _ => True) hI_81 hA ha2 (fun c9 Z9 h hI9 K9 => r_13 (d := dh + 1) hI9 hA ⟨by omega, h⟩ K9) (fun _ _ _ => trivial) 304) c_80 (v + 1) hI_81 (fun a j hm => rfl) ⟨by omega, by omega⟩ (by omega)) (fun hG_88 => (q_aload_n c_174_4 rfl (v_cv c_174_5 km_8_131 rfl rfl (Nat.le_of_ble_eq_true rfl) ⟨⟨rfl, rfl⟩, Nat.le_of_ble_eq_true rfl, rfl⟩ (Nat.le_of_ble_eq_true rfl) (Nat.le_of_ble_eq_true rfl) (q_aload_n c_152_0 rfl (v_gi (z := 5) (v := (-1)) c_152_1 kf_8_102 rfl (Nat.le_of_ble_eq_true rfl) rfl rfl (hc_1) (q_iconst c_152_4 (v_ic_ne_f (t := 12) c_152_5 rfl (by decide) ?_))))))))
              refine q_iconst c_152_8 (q_goto (t := 13) c_152_9 rfl (v_zret c_152_13 rfl (by decide) (bk_inl (v_if_eq_f (t := 67) c_174_8 rfl (by decide) (q_aload_n c_174_11 rfl ?_)))))
              have kn_89 : Hid (c2 41 3 = e1) := (hFc 41 3 qn_d31ba9b5e).trans (hr_e1)
              have h_90 : -2147483648 ≤ (H (nx F e1 a)) ∧ (H (nx F e1 a)) ≤ 2147483647 := by rw [← hH (nx F e1 a)]; exact ir_43 hI (nx F e1 a)
              have h_91 := hU (nx F e1 a) ((rg_be h_61 (ha.1) ((rg_eq hg_e1 h_1).2)).1) (by first | exact q_fb95706d0 h_67 hq5 | omega)
              have h_92 := hb_or (b := H) (e := e1) (r := (nx F e1 a))
              have h_93 := hb_bd (b := H) (e := e1) (r := (nx F e1 a)) (lo := -2147483648) (hi := 2147483647) h_90 (by decide)
              refine v_cv c_174_12 km_8_114 rfl rfl (Nat.le_of_ble_eq_true rfl) ⟨⟨rfl, rfl⟩, Nat.le_of_ble_eq_true rfl, rfl⟩ (Nat.le_of_ble_eq_true rfl) (Nat.le_of_ble_eq_true rfl) (f_154 (e1 := e1) (a9 := a) (B := H) (r8 := (nx F e1 a)) (r := (hb H e1 (nx F e1 a))) hI2 ((hid kn_89)) ((hr_a)) (fun j => (hFc 43 j qn_9b8df3fcd).trans (hH j)) ((nx_tr hU (ha.1) ((rg_eq hg_e1 h_1).2)).trans (rfl)) rfl (fun c_94 hI_95 hF_96 h_97 => (bk_inl (v_bip c_174_15 (by decide) (v_ic_eq_t (t := 29) c_174_17 rfl (by first | (clear ha2 hq0 hq1 hq2 hq3 hq4 hq5 hv ha hnw h_1 hg_e1 h_2 hr_e1 h_3 hg_f0 h_4 hg_g0 h_5 hg_p0 h_6 hg_n0 h_7 hr_n0 h_8 hr_o0 h_9 hg_a h_10 hr_a h_11 hg_nw h_12 hr_nw h_13 hc_0 h_14 hc_1 h_15 hc_2 h_16 hc_3 hx0 hx1 hx2 hx3 h_17 h_60 h_61 h_62 h_84 h_85 h_86 h_87 h_90 h_93 h_63; omega) | omega) (q_aload_n c_174_29 rfl ?_))))))
              have kn_98 : Hid (c_94 41 3 = e1) := (hF_96 41 3 (fun h => absurd h.2 (ni rfl))).trans (hid kn_89)
              refine v_cv c_174_30 km_8_114 rfl rfl (Nat.le_of_ble_eq_true rfl) ⟨⟨rfl, rfl⟩, Nat.le_of_ble_eq_true rfl, rfl⟩ (Nat.le_of_ble_eq_true rfl) (Nat.le_of_ble_eq_true rfl) (f_154 (e1 := e1) (a9 := (nx F e1 a)) (B := H) (r8 := (nx F e1 a)) (r := (hb H e1 (nx F e1 a))) hI_95 ((hid kn_98)) ((h_97)) (fun j => ((hF_96 43 j (fun h => absurd h.1 (nn rfl))).trans (hFc 43 j qn_9b8df3fcd)).trans (hH j)) ((nx_tr hU ((rg_be h_61 (ha.1) ((rg_eq hg_e1 h_1).2)).1) ((rg_eq hg_e1 h_1).2)).trans ((nx_z (Or.inr (by first | exact q_e88b22bc2 h_67 | omega))))) rfl (fun c_99 hI_100 hF_101 h_102 => (bk_inl (v_bip c_174_33 (by decide) (v_ic_ne_f (t := 42) c_174_35 rfl (by first | (clear ha2 hq0 hq1 hq2 hq3 hq4 hq5 hv ha hnw h_1 hg_e1 h_2 hr_e1 h_3 hg_f0 h_4 hg_g0 h_5 hg_p0 h_6 hg_n0 h_7 hr_n0 h_8 hr_o0 h_9 hg_a h_10 hr_a h_11 hg_nw h_12 hr_nw h_13 hc_0 h_14 hc_1 h_15 hc_2 h_16 hc_3 hx0 hx1 hx2 hx3 h_17 h_60 h_61 h_62 h_84 h_85 h_86 h_87 h_90 h_93 h_63; omega) | omega) (q_iconst c_174_38 (q_goto (t := 43) c_174_39 rfl (q_istore_n c_174_43 (Nat.le_of_ble_eq_true rfl) (q_aload_n c_174_44 rfl ?_)))))))))
              refine q_dup c_174_45 rfl (v_gi (z := 4) (v := (nx F e1 a)) c_174_46 kf_8_108 rfl (Nat.le_of_ble_eq_true rfl) rfl rfl (h_102) (q_iconst c_174_49 (v_iadd (v := (nx F e1 a) + 1) c_174_50 rfl (v_pi (z := 4) c_174_51 kf_8_108 rfl (Nat.le_of_ble_eq_true rfl) rfl rfl rfl (by decide) (q_aload_n c_174_54 rfl ?_)))))
              have kn_103 : Hid (c_94 41 5 = (-1)) := (hF_96 41 5 (fun h => absurd h.2 (ni rfl))).trans (hc_1)
              have kn_104 : Hid (c_99 41 5 = (-1)) := (hF_101 41 5 (fun h => absurd h.2 (ni rfl))).trans (hid kn_103)
              have hI_105 := iw_41_4 (v := (nx F e1 a) + 1) hI_100 ⟨by first | exact rgp_l (rg_be h_61 (ha.1) ((rg_eq hg_e1 h_1).2)).1 (by decide) | omega, by first | exact rgp_h (rg_be h_61 (ha.1) ((rg_eq hg_e1 h_1).2)).2 (by decide) | omega⟩
              have kn_106 : Hid (c_64 1 1 = e1) := (hF_66 1 1 (fun h => absurd h.2 (ni rfl))).trans (hid kn_59)
              have kn_107 : Hid (c_99 41 3 = e1) := (hF_101 41 3 (fun h => absurd h.2 (ni rfl))).trans (hid kn_98)
              have kn_108 : Hid (c_64 1 5 = (-1)) := (hF_66 1 5 (fun h => absurd h.2 (ni rfl))).trans (hc_2)
              have kn_109 : Hid (c_64 (A + 7) 5 = nw) := (hF_66 (A + 7) 5 (fun h => absurd h.1 (np hA rfl rfl))).trans (hg_nw)
              have kn_110 : Hid (c_94 41 29 = nw) := (hF_96 41 29 (fun h => absurd h.2 (ni rfl))).trans (hr_nw)
              have kn_111 : Hid (c_99 41 29 = nw) := (hF_101 41 29 (fun h => absurd h.2 (ni rfl))).trans (hid kn_110)
              have kn_112 : Hid (c_94 41 7 = a2) := (hF_96 41 7 (fun h => absurd h.2 (ni rfl))).trans (hc_3)
              have kn_113 : Hid (c_99 41 7 = a2) := (hF_101 41 7 (fun h => absurd h.2 (ni rfl))).trans (hid kn_112)
              have h_114 : c_64 1 4 = 0 := (hid kn_79)
              have h_115 : c_64 1 2 = (nx F e1 a) + 1 := (hz_68)
              have h_116 : c_64 1 5 = (-1) := (hid kn_108)
              have h_117 : (up c_99 41 4 ((nx F e1 a) + 1)) 41 5 = (-1) := ((up_n (by decide)).trans (hid kn_104))
              have h_118 : (up c_99 41 4 ((nx F e1 a) + 1)) 41 4 = (nx F e1 a) + 1 := (up_e rfl)
              have h_119 := ir_41_6 hI2
              have kn_120 : Hid (c_94 41 6 = c2 41 6) := hF_96 41 6 (fun h => absurd h.2 (ni rfl))
              have kn_121 : Hid (c_99 41 6 = c2 41 6) := (hF_101 41 6 (fun h => absurd h.2 (ni rfl))).trans (hid kn_120)
              have h_122 : (up c_99 41 4 ((nx F e1 a) + 1)) 41 6 = c2 41 6 := ((up_n (by decide)).trans (hid kn_121))
              have hA_123 : Ce nw (c_64 (A + 9)) ((up c_99 41 4 ((nx F e1 a) + 1)) 50) ((up c_99 41 4 ((nx F e1 a) + 1)) 51) := ce_fr hrl0 (fun j => hF_66 (A + 9) j (fun h => absurd h.1 (np hA rfl rfl))) (fun j => (up_c (nn rfl)).trans ((hF_101 50 j (fun h => absurd h.1 (nn rfl))).trans (hF_96 50 j (fun h => absurd h.1 (nn rfl))))) (fun j => (up_c (nn rfl)).trans ((hF_101 51 j (fun h => absurd h.1 (nn rfl))).trans (hF_96 51 j (fun h => absurd h.1 (nn rfl)))))
              refine v_cv c_174_55 km_8_239 rfl rfl (Nat.le_of_ble_eq_true rfl) ⟨⟨rfl, rfl⟩, Nat.le_of_ble_eq_true rfl, rfl⟩ (Nat.le_of_ble_eq_true rfl) (Nat.le_of_ble_eq_true rfl) (L_12 (m := c_64) (a2 := a2) (e1 := e1) (f0 := 0) (g0 := (-1)) (p0 := (nx F e1 a) + 1) (n0 := nw) (o0 := a2) (F := F) (H := H) hI_105 hI_65 hI_81 hA (show 0 ≤ a2 ∧ a2 ≤ 6 from ha2) (by first | assumption | omega) (by first | assumption | omega) (by first | assumption | omega) (by first | exact q_6d1e0f202 h_61 hq3 hx0 | omega) (by first | exact q_9eaf88dc1 h_67 | omega) (by first | exact q_7024b37ce hq5 | omega) ((hid kn_106)) (((up_n (by decide)).trans (hid kn_107))) ((hid kn_79)) ((hid kn_108)) ((hz_68)) ((hid kn_109)) (((up_n (by decide)).trans (hid kn_111))) (((up_n (by decide)).trans (hid kn_113))) (fun j => ((hF_66 2 j (fun h => absurd h.1 (nn rfl))).trans (hFm 2 j (qn_0eac3bbbd hA))).trans (hF j)) (fun j => ((up_c (nn rfl)).trans ((hF_101 43 j (fun h => absurd h.1 (nn rfl))).trans ((hF_96 43 j (fun h => absurd h.1 (nn rfl))).trans (hFc 43 j qn_9b8df3fcd)))).trans (hH j)) hU (rt_i1 ⟨by first | assumption | omega, by first | assumption | omega, by first | assumption | omega, by first | assumption | omega⟩) (ce_le hA_123 (by omega)) H13 hG_83 (fun c_124 hI_125 hF_126 hR_128 h_129 h_130 hA_131 => (bk_inl ?_)))
              have h_132 := ir_41_29 hI_125
              have h_133 := ir_1_2 hI_81
              have h_134 := ir_41_7 hI_125
              refine q_aload_n c_174_58 rfl (q_iload_n c_174_59 rfl (q_iconst c_174_60 (v_cv c_174_61 km_8_242 rfl rfl (Nat.le_of_ble_eq_true rfl) ⟨⟨rfl, rfl⟩, Nat.le_of_ble_eq_true rfl, rfl⟩ (Nat.le_of_ble_eq_true rfl) (Nat.le_of_ble_eq_true rfl) (q_aload_n c_170_0 rfl (v_cv c_170_1 km_8_131 rfl rfl (Nat.le_of_ble_eq_true rfl) ⟨⟨rfl, rfl⟩, Nat.le_of_ble_eq_true rfl, rfl⟩ (Nat.le_of_ble_eq_true rfl) (Nat.le_of_ble_eq_true rfl) (q_aload_n c_152_0 rfl ?_))))))
              have h_135 := ir_41_5 hI_125
              have h_136 := ir_1_5 hI_81
              have h_137 := ir_41_4 hI_125
              have h_138 := ir_41_6 hI_125
              have h_139 := rt_ok hR_128 (by first | exact q_f6b658f58 h_86 h_87 | omega)
              have hro_hR_128 := rt_ok hR_128 (by first | exact q_f6b658f58 h_86 h_87 | omega)
              refine v_gi (z := 5) (v := (-1)) c_152_1 kf_8_102 rfl (Nat.le_of_ble_eq_true rfl) rfl rfl hro_hR_128.2.1 (q_iconst c_152_4 (v_ic_ne_f (t := 12) c_152_5 rfl (by decide) (q_iconst c_152_8 (q_goto (t := 13) c_152_9 rfl (v_zret c_152_13 rfl (by decide) (bk_inl (v_if_ne_t (t := 8) c_170_4 rfl (by decide) ?_)))))))
              refine q_aload_n c_170_8 rfl (v_gr (t := 50) c_170_9 kf_8_41 rfl (Nat.le_of_ble_eq_true rfl) rfl (q_aload_n c_170_12 rfl (v_gi (z := 29) (v := c_124 41 29) c_170_13 kf_8_236 rfl (Nat.le_of_ble_eq_true rfl) rfl rfl rfl (q_iload_n c_170_16 rfl (v_is c_170_17 rfl (by decide) (by decide) ⟨h_132.1, by first | exact q_50827f7e3 h_129 h_61 h_86 h_87 hq3 hq5 hx0 | omega⟩ (q_aload_n c_170_18 rfl (v_gr (t := 51) c_170_19 kf_8_44 rfl (Nat.le_of_ble_eq_true rfl) rfl ?_)))))))
              refine q_aload_n c_170_22 rfl (v_gi (z := 29) (v := c_124 41 29) c_170_23 kf_8_236 rfl (Nat.le_of_ble_eq_true rfl) rfl rfl (up_c (nn rfl)) (q_iload_n c_170_26 rfl (v_is c_170_27 rfl (by decide) (by decide) ⟨h_132.1, by first | exact q_50827f7e3 h_129 h_61 h_86 h_87 hq3 hq5 hx0 | omega⟩ (q_aload_n c_170_28 rfl (q_dup c_170_29 rfl (v_gi (z := 29) (v := c_124 41 29) c_170_30 kf_8_236 rfl (Nat.le_of_ble_eq_true rfl) rfl rfl ((up_c (nn rfl)).trans (up_c (nn rfl))) (q_iconst c_170_33 ?_)))))))
              refine v_iadd (v := c_124 41 29 + 1) c_170_34 rfl (v_pi (z := 29) c_170_35 kf_8_236 rfl (Nat.le_of_ble_eq_true rfl) rfl rfl rfl (by decide) (q_vret rfl rfl (bk_inl (q_goto (t := 4) c_174_64 rfl ?_))))
              have hI_140 := iw_50 (j := c_124 41 29) (v := 2) hI_125 ⟨by decide, by decide⟩
              have hI_141 := iw_51 (j := c_124 41 29) (v := 0) hI_140 ⟨by decide, by decide⟩
              have hI_142 := iw_41_29 (v := c_124 41 29 + 1) hI_141 ⟨by first | exact rgp_l h_132.1 (by decide) | omega, by first | exact q_3907a9fe5 h_129 h_61 h_86 h_87 hq3 hq5 hx0 | omega⟩
              refine Wp_ls [(0, .ref 41)] (lsub_cons rfl lsub_nil) ?_
              have hA_143 : Ce (c_80 (A + 7) 5) (c_80 (A + 9)) ((up (up (up c_124 50 (c_124 41 29) 2) 51 (c_124 41 29) 0) 41 29 (c_124 41 29 + 1)) 50) ((up (up (up c_124 50 (c_124 41 29) 2) 51 (c_124 41 29) 0) 41 29 (c_124 41 29 + 1)) 51) := ce_z (by omega)
              exact ih (up (up (up c_124 50 (c_124 41 29) 2) 51 (c_124 41 29) 0) 41 29 (c_124 41 29 + 1)) c_80 (v + 1) (c_80 1 2) (c_80 (A + 7) 5) hI_142 (fun a j hm => (up_b (Decidable.or_iff_not_imp_left.mpr (fun h1 h2 => hm (Or.inr (Or.inr (Or.inr (Or.inr (Or.inl ⟨Decidable.not_not.mp h1, h2⟩)))))))).trans ((up_b (Decidable.or_iff_not_imp_left.mpr (fun h1 h2 => hm (Or.inr (Or.inr (Or.inr (Or.inr (Or.inr (Or.inr (Decidable.not_not.mp h1)))))))))).trans ((up_b (Decidable.or_iff_not_imp_left.mpr (fun h1 h2 => hm (Or.inr (Or.inr (Or.inr (Or.inr (Or.inr (Or.inl (Decidable.not_not.mp h1)))))))))).trans ((hF_126 a j hm).trans ((up_b (Decidable.or_iff_not_imp_left.mpr (fun h1 h2 => hm (Or.inl ⟨Decidable.not_not.mp h1, h2⟩)))).trans ((hF_101 a j (fun h => hm (Or.inl h))).trans ((hF_96 a j (fun h => hm (Or.inl h))).trans (hFc a j hm)))))))) hI_81 (fun a j hm => (hF_82 a j hm).trans ((hF_66 a j (fun h => hm (Or.inl h))).trans (hFm a j hm))) ⟨by first | exact rgp_l hv.1 (by decide) | omega, by first | exact q_e92c430a0 h_17 | omega⟩ h_133 h_84 (rfl) (((((up_n (by decide)).trans ((up_c (nn rfl)).trans (up_c (nn rfl))))).trans (hro_hR_128.2.2.1))) (rfl) ((show _ = c_124 41 29 + 1 from (up_e rfl)).trans (by first | assumption | exact Int.le_antisymm (by first | exact q_39b8f5a74 h_129 h_61 h_85 h_86 h_87 hq3 hq5 hx0 | omega) (by first | exact q_361f8a737 h_129 h_86 h_87 | omega))) ((show _ = c_80 1 4 from rfl).trans (by first | assumption | exact Int.le_antisymm (by first | exact q_d1e538aa4 h_87 | omega) (by first | exact q_eb3a7ad7a h_86 | omega))) (((((up_n (by decide)).trans ((up_c (nn rfl)).trans (up_c (nn rfl))))).trans (hro_hR_128.2.1))) ((show _ = c_80 1 5 from rfl).trans (by first | assumption | exact Int.le_antisymm (by first | exact q_10f95419d h_139 | omega) (by first | exact q_3d8b3e7e9 h_136 | omega))) ((show _ = c_124 41 7 from ((up_n (by decide)).trans ((up_c (nn rfl)).trans (up_c (nn rfl))))).trans (by first | assumption | exact Int.le_antisymm (by first | exact q_f85ce3c92 h_130 | omega) (by first | exact q_f91efb75c h_130 | omega))) (by first | exact q_e6011b4be h_129 h_61 h_86 h_87 hx0 | omega) (by first | exact q_1a358e324 h_129 h_61 h_86 h_87 hx1 | omega) (by first | exact q_9e22fc5a2 h_129 h_86 h_87 | omega) (by first | exact q_1b6cdac66 h_129 h_17 h_61 h_85 h_86 h_87 hq3 hx0 | omega) (ce_le hA_143 (by omega)) hG_88 (by omega)
            · skip
              refine q_iload_n c_13_8 rfl (v_sip c_13_9 (by decide) ?_)
              by_cases h_144 : v + 1 ≥ 150
              · refine v_ic_ge_t (t := 59) c_13_12 rfl ⟨by decide, h_144, by first | exact rgp_h hv.2 (by decide) | omega⟩ (q_vret rfl rfl ?_)
                intro hE_145
                have hW : Wd P Q P P c_80 = Wd P Q P P m9 := (Prod.mk.inj (Prod.mk.inj hE_145).2).1
                have h_146 := ir_1_4 hJ9
                have h_147 : m9 1 4 = c_80 1 4 := wd_fv (z := 4) 4 rfl hW rfl rfl rfl rfl (by decide) rfl ⟨(Int.le_trans (by decide) h_86.1), (Int.le_trans h_86.2 (by decide))⟩ ⟨(Int.le_trans (by decide) h_146.1), (Int.le_trans h_146.2 (by decide))⟩
                have h_148 := ir_1_2 hI_81
                have h_149 := ir_1_2 hJ9
                have h_150 : m9 1 2 = c_80 1 2 := wd_fv (z := 2) 2 rfl hW rfl rfl rfl rfl (by decide) rfl ⟨(Int.le_trans (by decide) h_148.1), (Int.le_trans h_148.2 (by decide))⟩ ⟨(Int.le_trans (by decide) h_149.1), (Int.le_trans h_149.2 (by decide))⟩
                have h_151 := ir_1_5 hI_81
                have h_152 := ir_1_5 hJ9
                have h_153 : m9 1 5 = c_80 1 5 := wd_fv (z := 5) 5 rfl hW rfl rfl rfl rfl (by decide) rfl ⟨(Int.le_trans (by decide) h_151.1), (Int.le_trans h_151.2 (by decide))⟩ ⟨(Int.le_trans (by decide) h_152.1), (Int.le_trans h_152.2 (by decide))⟩
                have h_154 := ir_p7_5 hJ9 hA
                have h_155 : m9 (A + 7) 5 = c_80 (A + 7) 5 := wd_fv (z := 5) 5 rfl hW (ck_p7 hA) (ck_p7 hA) rfl rfl (a68 hA rfl) rfl ⟨(Int.le_trans (by decide) h_84.1), (Int.le_trans h_84.2 (by decide))⟩ ⟨(Int.le_trans (by decide) h_154.1), (Int.le_trans h_154.2 (by decide))⟩
                refine q_aload_n c_174_4 rfl (v_cv c_174_5 km_8_131 rfl rfl (Nat.le_of_ble_eq_true rfl) ⟨⟨rfl, rfl⟩, Nat.le_of_ble_eq_true rfl, rfl⟩ (Nat.le_of_ble_eq_true rfl) (Nat.le_of_ble_eq_true rfl) (q_aload_n c_152_0 rfl (v_gi (z := 5) (v := (-1)) c_152_1 kf_8_102 rfl (Nat.le_of_ble_eq_true rfl) rfl rfl (hc_1) (q_iconst c_152_4 (v_ic_ne_f (t := 12) c_152_5 rfl (by decide) (q_iconst c_152_8 (q_goto (t := 13) c_152_9 rfl ?_)))))))
                refine v_zret c_152_13 rfl (by decide) (bk_inl (v_if_eq_f (t := 67) c_174_8 rfl (by decide) (q_aload_n c_174_11 rfl ?_)))
                have kn_156 : Hid (c2 41 3 = e1) := (hFc 41 3 qn_d31ba9b5e).trans (hr_e1)
                have h_157 : -2147483648 ≤ (H (nx F e1 a)) ∧ (H (nx F e1 a)) ≤ 2147483647 := by rw [← hH (nx F e1 a)]; exact ir_43 hI (nx F e1 a)
                have h_158 := hU (nx F e1 a) ((rg_be h_61 (ha.1) ((rg_eq hg_e1 h_1).2)).1) (by first | exact q_fb95706d0 h_67 hq5 | omega)
                have h_159 := hb_or (b := H) (e := e1) (r := (nx F e1 a))
                have h_160 := hb_bd (b := H) (e := e1) (r := (nx F e1 a)) (lo := -2147483648) (hi := 2147483647) h_157 (by decide)
                refine v_cv c_174_12 km_8_114 rfl rfl (Nat.le_of_ble_eq_true rfl) ⟨⟨rfl, rfl⟩, Nat.le_of_ble_eq_true rfl, rfl⟩ (Nat.le_of_ble_eq_true rfl) (Nat.le_of_ble_eq_true rfl) (f_154 (e1 := e1) (a9 := a) (B := H) (r8 := (nx F e1 a)) (r := (hb H e1 (nx F e1 a))) hI2 ((hid kn_156)) ((hr_a)) (fun j => (hFc 43 j qn_9b8df3fcd).trans (hH j)) ((nx_tr hU (ha.1) ((rg_eq hg_e1 h_1).2)).trans (rfl)) rfl (fun c_161 hI_162 hF_163 h_164 => (bk_inl (v_bip c_174_15 (by decide) (v_ic_eq_t (t := 29) c_174_17 rfl (by first | (clear ha2 hq0 hq1 hq2 hq3 hq4 hq5 hv ha hnw h_1 hg_e1 h_2 hr_e1 h_3 hg_f0 h_4 hg_g0 h_5 hg_p0 h_6 hg_n0 h_7 hr_n0 h_8 hr_o0 h_9 hg_a h_10 hr_a h_11 hg_nw h_12 hr_nw h_13 hc_0 h_14 hc_1 h_15 hc_2 h_16 hc_3 hx0 hx1 hx2 hx3 h_17 h_60 h_61 h_62 h_84 h_85 h_86 h_144 h_146 h_147 h_148 h_149 h_150 h_151 h_152 h_153 h_154 h_155 h_157 h_160 h_63 h_87; omega) | omega) (q_aload_n c_174_29 rfl ?_))))))
                have kn_165 : Hid (c_161 41 3 = e1) := (hF_163 41 3 (fun h => absurd h.2 (ni rfl))).trans (hid kn_156)
                refine v_cv c_174_30 km_8_114 rfl rfl (Nat.le_of_ble_eq_true rfl) ⟨⟨rfl, rfl⟩, Nat.le_of_ble_eq_true rfl, rfl⟩ (Nat.le_of_ble_eq_true rfl) (Nat.le_of_ble_eq_true rfl) (f_154 (e1 := e1) (a9 := (nx F e1 a)) (B := H) (r8 := (nx F e1 a)) (r := (hb H e1 (nx F e1 a))) hI_162 ((hid kn_165)) ((h_164)) (fun j => ((hF_163 43 j (fun h => absurd h.1 (nn rfl))).trans (hFc 43 j qn_9b8df3fcd)).trans (hH j)) ((nx_tr hU ((rg_be h_61 (ha.1) ((rg_eq hg_e1 h_1).2)).1) ((rg_eq hg_e1 h_1).2)).trans ((nx_z (Or.inr (by first | exact q_e88b22bc2 h_67 | omega))))) rfl (fun c_166 hI_167 hF_168 h_169 => (bk_inl (v_bip c_174_33 (by decide) (v_ic_ne_f (t := 42) c_174_35 rfl (by first | (clear ha2 hq0 hq1 hq2 hq3 hq4 hq5 hv ha hnw h_1 hg_e1 h_2 hr_e1 h_3 hg_f0 h_4 hg_g0 h_5 hg_p0 h_6 hg_n0 h_7 hr_n0 h_8 hr_o0 h_9 hg_a h_10 hr_a h_11 hg_nw h_12 hr_nw h_13 hc_0 h_14 hc_1 h_15 hc_2 h_16 hc_3 hx0 hx1 hx2 hx3 h_17 h_60 h_61 h_62 h_84 h_85 h_86 h_144 h_146 h_147 h_148 h_149 h_150 h_151 h_152 h_153 h_154 h_155 h_157 h_160 h_63 h_87; omega) | omega) (q_iconst c_174_38 (q_goto (t := 43) c_174_39 rfl (q_istore_n c_174_43 (Nat.le_of_ble_eq_true rfl) (q_aload_n c_174_44 rfl ?_)))))))))
                refine q_dup c_174_45 rfl (v_gi (z := 4) (v := (nx F e1 a)) c_174_46 kf_8_108 rfl (Nat.le_of_ble_eq_true rfl) rfl rfl (h_169) (q_iconst c_174_49 (v_iadd (v := (nx F e1 a) + 1) c_174_50 rfl (v_pi (z := 4) c_174_51 kf_8_108 rfl (Nat.le_of_ble_eq_true rfl) rfl rfl rfl (by decide) (q_aload_n c_174_54 rfl ?_)))))
                have kn_170 : Hid (c_161 41 5 = (-1)) := (hF_163 41 5 (fun h => absurd h.2 (ni rfl))).trans (hc_1)
                have kn_171 : Hid (c_166 41 5 = (-1)) := (hF_168 41 5 (fun h => absurd h.2 (ni rfl))).trans (hid kn_170)
                have hI_172 := iw_41_4 (v := (nx F e1 a) + 1) hI_167 ⟨by first | exact rgp_l (rg_be h_61 (ha.1) ((rg_eq hg_e1 h_1).2)).1 (by decide) | omega, by first | exact rgp_h (rg_be h_61 (ha.1) ((rg_eq hg_e1 h_1).2)).2 (by decide) | omega⟩
                have kn_173 : Hid (c_64 1 1 = e1) := (hF_66 1 1 (fun h => absurd h.2 (ni rfl))).trans (hid kn_59)
                have kn_174 : Hid (c_166 41 3 = e1) := (hF_168 41 3 (fun h => absurd h.2 (ni rfl))).trans (hid kn_165)
                have kn_175 : Hid (c_64 1 5 = (-1)) := (hF_66 1 5 (fun h => absurd h.2 (ni rfl))).trans (hc_2)
                have kn_176 : Hid (c_64 (A + 7) 5 = nw) := (hF_66 (A + 7) 5 (fun h => absurd h.1 (np hA rfl rfl))).trans (hg_nw)
                have kn_177 : Hid (c_161 41 29 = nw) := (hF_163 41 29 (fun h => absurd h.2 (ni rfl))).trans (hr_nw)
                have kn_178 : Hid (c_166 41 29 = nw) := (hF_168 41 29 (fun h => absurd h.2 (ni rfl))).trans (hid kn_177)
                have kn_179 : Hid (c_161 41 7 = a2) := (hF_163 41 7 (fun h => absurd h.2 (ni rfl))).trans (hc_3)
                have kn_180 : Hid (c_166 41 7 = a2) := (hF_168 41 7 (fun h => absurd h.2 (ni rfl))).trans (hid kn_179)
                have h_181 : c_64 1 4 = 0 := (hid kn_79)
                have h_182 : c_64 1 2 = (nx F e1 a) + 1 := (hz_68)
                have h_183 : c_64 1 5 = (-1) := (hid kn_175)
                have h_184 : (up c_166 41 4 ((nx F e1 a) + 1)) 41 5 = (-1) := ((up_n (by decide)).trans (hid kn_171))
                have h_185 : (up c_166 41 4 ((nx F e1 a) + 1)) 41 4 = (nx F e1 a) + 1 := (up_e rfl)
                have h_186 := ir_41_6 hI2
                have kn_187 : Hid (c_161 41 6 = c2 41 6) := hF_163 41 6 (fun h => absurd h.2 (ni rfl))
                have kn_188 : Hid (c_166 41 6 = c2 41 6) := (hF_168 41 6 (fun h => absurd h.2 (ni rfl))).trans (hid kn_187)
                have h_189 : (up c_166 41 4 ((nx F e1 a) + 1)) 41 6 = c2 41 6 := ((up_n (by decide)).trans (hid kn_188))
                have hA_190 : Ce nw (c_64 (A + 9)) ((up c_166 41 4 ((nx F e1 a) + 1)) 50) ((up c_166 41 4 ((nx F e1 a) + 1)) 51) := ce_fr hrl0 (fun j => hF_66 (A + 9) j (fun h => absurd h.1 (np hA rfl rfl))) (fun j => (up_c (nn rfl)).trans ((hF_168 50 j (fun h => absurd h.1 (nn rfl))).trans (hF_163 50 j (fun h => absurd h.1 (nn rfl))))) (fun j => (up_c (nn rfl)).trans ((hF_168 51 j (fun h => absurd h.1 (nn rfl))).trans (hF_163 51 j (fun h => absurd h.1 (nn rfl)))))
                refine v_cv c_174_55 km_8_239 rfl rfl (Nat.le_of_ble_eq_true rfl) ⟨⟨rfl, rfl⟩, Nat.le_of_ble_eq_true rfl, rfl⟩ (Nat.le_of_ble_eq_true rfl) (Nat.le_of_ble_eq_true rfl) (L_12 (m := c_64) (a2 := a2) (e1 := e1) (f0 := 0) (g0 := (-1)) (p0 := (nx F e1 a) + 1) (n0 := nw) (o0 := a2) (F := F) (H := H) hI_172 hI_65 hI_81 hA (show 0 ≤ a2 ∧ a2 ≤ 6 from ha2) (by first | assumption | omega) (by first | assumption | omega) (by first | assumption | omega) (by first | exact q_6d1e0f202 h_61 hq3 hx0 | omega) (by first | exact q_9eaf88dc1 h_67 | omega) (by first | exact q_7024b37ce hq5 | omega) ((hid kn_173)) (((up_n (by decide)).trans (hid kn_174))) ((hid kn_79)) ((hid kn_175)) ((hz_68)) ((hid kn_176)) (((up_n (by decide)).trans (hid kn_178))) (((up_n (by decide)).trans (hid kn_180))) (fun j => ((hF_66 2 j (fun h => absurd h.1 (nn rfl))).trans (hFm 2 j (qn_0eac3bbbd hA))).trans (hF j)) (fun j => ((up_c (nn rfl)).trans ((hF_168 43 j (fun h => absurd h.1 (nn rfl))).trans ((hF_163 43 j (fun h => absurd h.1 (nn rfl))).trans (hFc 43 j qn_9b8df3fcd)))).trans (hH j)) hU (rt_i1 ⟨by first | assumption | omega, by first | assumption | omega, by first | assumption | omega, by first | assumption | omega⟩) (ce_le hA_190 (by omega)) H13 hG_83 (fun c_191 hI_192 hF_193 hR_195 h_196 h_197 hA_198 => (bk_inl ?_)))
                have h_199 := ir_41_29 hI_192
                have h_200 := ir_41_7 hI_192
                refine q_aload_n c_174_58 rfl (q_iload_n c_174_59 rfl (q_iconst c_174_60 (v_cv c_174_61 km_8_242 rfl rfl (Nat.le_of_ble_eq_true rfl) ⟨⟨rfl, rfl⟩, Nat.le_of_ble_eq_true rfl, rfl⟩ (Nat.le_of_ble_eq_true rfl) (Nat.le_of_ble_eq_true rfl) (q_aload_n c_170_0 rfl (v_cv c_170_1 km_8_131 rfl rfl (Nat.le_of_ble_eq_true rfl) ⟨⟨rfl, rfl⟩, Nat.le_of_ble_eq_true rfl, rfl⟩ (Nat.le_of_ble_eq_true rfl) (Nat.le_of_ble_eq_true rfl) (q_aload_n c_152_0 rfl ?_))))))
                have h_201 := ir_41_5 hI_192
                have h_202 := ir_41_4 hI_192
                have h_203 := ir_41_6 hI_192
                have h_204 := rt_bad hR_195 (by first | exact q_106d90f3b h_86 h_87 | omega)
                have hrb_hR_195 := rt_bad hR_195 (by first | exact q_f7b7d720f h_204 | omega)
                refine v_gi (z := 5) (v := c_80 1 5) c_152_1 kf_8_102 rfl (Nat.le_of_ble_eq_true rfl) rfl rfl hrb_hR_195.2.1 (q_iconst c_152_4 (v_ic_ne_t (t := 12) c_152_5 rfl ⟨by first | exact q_0f78863d3 h_204 | omega, ⟨(Int.le_trans (by decide) h_151.1), (Int.le_trans h_151.2 (by decide))⟩, by decide, by decide⟩ (q_iconst c_152_12 (v_zret c_152_13 rfl (by decide) (bk_inl (v_if_ne_f (t := 8) c_170_4 rfl (by decide) (q_vret rfl rfl ?_)))))))
                refine bk_inl (q_goto (t := 4) c_174_64 rfl (q_aload_n c_174_4 rfl (v_cv c_174_5 km_8_131 rfl rfl (Nat.le_of_ble_eq_true rfl) ⟨⟨rfl, rfl⟩, Nat.le_of_ble_eq_true rfl, rfl⟩ (Nat.le_of_ble_eq_true rfl) (Nat.le_of_ble_eq_true rfl) (q_aload_n c_152_0 rfl (v_gi (z := 5) (v := c_80 1 5) c_152_1 kf_8_102 rfl (Nat.le_of_ble_eq_true rfl) rfl rfl hrb_hR_195.2.1 (q_iconst c_152_4 (v_ic_ne_t (t := 12) c_152_5 rfl ⟨by first | exact q_0f78863d3 h_204 | omega, ⟨(Int.le_trans (by decide) h_151.1), (Int.le_trans h_151.2 (by decide))⟩, by decide, by decide⟩ ?_)))))))
                refine q_iconst c_152_12 (v_zret c_152_13 rfl (by decide) (bk_inl (v_if_eq_t (t := 67) c_174_8 rfl (by decide) (q_vret rfl rfl ?_))))
                have h_205 : c_191 41 5 = c_80 1 5 := hrb_hR_195.2.1
                have h_206 : c_191 41 6 = c_80 1 4 := hrb_hR_195.2.2.2
                exact K c_191  hI_192 (fun a j hm => (hF_193 a j hm).trans ((up_b (Decidable.or_iff_not_imp_left.mpr (fun h1 h2 => hm (Or.inl ⟨Decidable.not_not.mp h1, h2⟩)))).trans ((hF_168 a j (fun h => hm (Or.inl h))).trans ((hF_163 a j (fun h => hm (Or.inl h))).trans (hFc a j hm))))) (rt_i2 ⟨⟨by first | exact q_c4ab36c8d h_147 h_204 | omega, by first | exact q_c99d6ea93 h_146 | omega⟩, by first | exact q_88dc5fb99 h_153 | omega, by first | exact q_cb71117a2 h_153 h_204 | omega, by first | exact q_88dc5fb99 h_147 | omega⟩) (Or.inr (Or.inl (by first | exact q_374cd1df9 h_147 h_204 | omega))) (by first | exact q_cea541e22 h_197 | omega) (fun hz => absurd hz (by first | exact q_293b4c771 h_147 h_204 | omega))
              · refine v_ic_ge_f (t := 59) c_13_12 rfl ⟨by first | exact rgp_l hv.1 (by decide) | omega, (Int.not_le.mp h_144), by decide⟩ (q_aload_n c_13_15 rfl (v_cv c_13_16 km_0_40 rfl rfl (Nat.le_of_ble_eq_true rfl) ⟨⟨rfl, rfl⟩, Nat.le_of_ble_eq_true rfl, rfl⟩ (Nat.le_of_ble_eq_true rfl) (Nat.le_of_ble_eq_true rfl) (q_aload_n c_2_0 rfl (v_gi (z := 4) (v := c_80 1 4) c_2_1 kf_5_38 rfl (Nat.le_of_ble_eq_true rfl) rfl rfl rfl (v_if_ne_t (t := 11) c_2_4 rfl ⟨by first | exact q_106d90f3b h_86 h_87 | omega, ⟨(Int.le_trans (by decide) h_86.1), (Int.le_trans h_86.2 (by decide))⟩, by decide, by decide⟩ (q_iconst c_2_11 (v_zret c_2_12 rfl (by decide) ?_)))))))
                refine bk_inl (v_if_eq_t (t := 59) c_13_19 rfl (by decide) (q_vret rfl rfl ?_))
                intro hE_207
                have hW : Wd P Q P P c_80 = Wd P Q P P m9 := (Prod.mk.inj (Prod.mk.inj hE_207).2).1
                have h_208 := ir_1_4 hJ9
                have h_209 : m9 1 4 = c_80 1 4 := wd_fv (z := 4) 4 rfl hW rfl rfl rfl rfl (by decide) rfl ⟨(Int.le_trans (by decide) h_86.1), (Int.le_trans h_86.2 (by decide))⟩ ⟨(Int.le_trans (by decide) h_208.1), (Int.le_trans h_208.2 (by decide))⟩
                have h_210 := ir_1_2 hI_81
                have h_211 := ir_1_2 hJ9
                have h_212 : m9 1 2 = c_80 1 2 := wd_fv (z := 2) 2 rfl hW rfl rfl rfl rfl (by decide) rfl ⟨(Int.le_trans (by decide) h_210.1), (Int.le_trans h_210.2 (by decide))⟩ ⟨(Int.le_trans (by decide) h_211.1), (Int.le_trans h_211.2 (by decide))⟩
                have h_213 := ir_1_5 hI_81
                have h_214 := ir_1_5 hJ9
                have h_215 : m9 1 5 = c_80 1 5 := wd_fv (z := 5) 5 rfl hW rfl rfl rfl rfl (by decide) rfl ⟨(Int.le_trans (by decide) h_213.1), (Int.le_trans h_213.2 (by decide))⟩ ⟨(Int.le_trans (by decide) h_214.1), (Int.le_trans h_214.2 (by decide))⟩
                have h_216 := ir_p7_5 hJ9 hA
                have h_217 : m9 (A + 7) 5 = c_80 (A + 7) 5 := wd_fv (z := 5) 5 rfl hW (ck_p7 hA) (ck_p7 hA) rfl rfl (a68 hA rfl) rfl ⟨(Int.le_trans (by decide) h_84.1), (Int.le_trans h_84.2 (by decide))⟩ ⟨(Int.le_trans (by decide) h_216.1), (Int.le_trans h_216.2 (by decide))⟩
                refine q_aload_n c_174_4 rfl (v_cv c_174_5 km_8_131 rfl rfl (Nat.le_of_ble_eq_true rfl) ⟨⟨rfl, rfl⟩, Nat.le_of_ble_eq_true rfl, rfl⟩ (Nat.le_of_ble_eq_true rfl) (Nat.le_of_ble_eq_true rfl) (q_aload_n c_152_0 rfl (v_gi (z := 5) (v := (-1)) c_152_1 kf_8_102 rfl (Nat.le_of_ble_eq_true rfl) rfl rfl (hc_1) (q_iconst c_152_4 (v_ic_ne_f (t := 12) c_152_5 rfl (by decide) (q_iconst c_152_8 (q_goto (t := 13) c_152_9 rfl ?_)))))))
                refine v_zret c_152_13 rfl (by decide) (bk_inl (v_if_eq_f (t := 67) c_174_8 rfl (by decide) (q_aload_n c_174_11 rfl ?_)))
                have kn_218 : Hid (c2 41 3 = e1) := (hFc 41 3 qn_d31ba9b5e).trans (hr_e1)
                have h_219 : -2147483648 ≤ (H (nx F e1 a)) ∧ (H (nx F e1 a)) ≤ 2147483647 := by rw [← hH (nx F e1 a)]; exact ir_43 hI (nx F e1 a)
                have h_220 := hU (nx F e1 a) ((rg_be h_61 (ha.1) ((rg_eq hg_e1 h_1).2)).1) (by first | exact q_fb95706d0 h_67 hq5 | omega)
                have h_221 := hb_or (b := H) (e := e1) (r := (nx F e1 a))
                have h_222 := hb_bd (b := H) (e := e1) (r := (nx F e1 a)) (lo := -2147483648) (hi := 2147483647) h_219 (by decide)
                refine v_cv c_174_12 km_8_114 rfl rfl (Nat.le_of_ble_eq_true rfl) ⟨⟨rfl, rfl⟩, Nat.le_of_ble_eq_true rfl, rfl⟩ (Nat.le_of_ble_eq_true rfl) (Nat.le_of_ble_eq_true rfl) (f_154 (e1 := e1) (a9 := a) (B := H) (r8 := (nx F e1 a)) (r := (hb H e1 (nx F e1 a))) hI2 ((hid kn_218)) ((hr_a)) (fun j => (hFc 43 j qn_9b8df3fcd).trans (hH j)) ((nx_tr hU (ha.1) ((rg_eq hg_e1 h_1).2)).trans (rfl)) rfl (fun c_223 hI_224 hF_225 h_226 => (bk_inl (v_bip c_174_15 (by decide) (v_ic_eq_t (t := 29) c_174_17 rfl (by first | (clear ha2 hq0 hq1 hq2 hq3 hq4 hq5 hv ha hnw h_1 hg_e1 h_2 hr_e1 h_3 hg_f0 h_4 hg_g0 h_5 hg_p0 h_6 hg_n0 h_7 hr_n0 h_8 hr_o0 h_9 hg_a h_10 hr_a h_11 hg_nw h_12 hr_nw h_13 hc_0 h_14 hc_1 h_15 hc_2 h_16 hc_3 hx0 hx1 hx2 hx3 h_17 h_60 h_61 h_62 h_84 h_85 h_86 h_144 h_208 h_209 h_210 h_211 h_212 h_213 h_214 h_215 h_216 h_217 h_219 h_222 h_63 h_87; omega) | omega) (q_aload_n c_174_29 rfl ?_))))))
                have kn_227 : Hid (c_223 41 3 = e1) := (hF_225 41 3 (fun h => absurd h.2 (ni rfl))).trans (hid kn_218)
                refine v_cv c_174_30 km_8_114 rfl rfl (Nat.le_of_ble_eq_true rfl) ⟨⟨rfl, rfl⟩, Nat.le_of_ble_eq_true rfl, rfl⟩ (Nat.le_of_ble_eq_true rfl) (Nat.le_of_ble_eq_true rfl) (f_154 (e1 := e1) (a9 := (nx F e1 a)) (B := H) (r8 := (nx F e1 a)) (r := (hb H e1 (nx F e1 a))) hI_224 ((hid kn_227)) ((h_226)) (fun j => ((hF_225 43 j (fun h => absurd h.1 (nn rfl))).trans (hFc 43 j qn_9b8df3fcd)).trans (hH j)) ((nx_tr hU ((rg_be h_61 (ha.1) ((rg_eq hg_e1 h_1).2)).1) ((rg_eq hg_e1 h_1).2)).trans ((nx_z (Or.inr (by first | exact q_e88b22bc2 h_67 | omega))))) rfl (fun c_228 hI_229 hF_230 h_231 => (bk_inl (v_bip c_174_33 (by decide) (v_ic_ne_f (t := 42) c_174_35 rfl (by first | (clear ha2 hq0 hq1 hq2 hq3 hq4 hq5 hv ha hnw h_1 hg_e1 h_2 hr_e1 h_3 hg_f0 h_4 hg_g0 h_5 hg_p0 h_6 hg_n0 h_7 hr_n0 h_8 hr_o0 h_9 hg_a h_10 hr_a h_11 hg_nw h_12 hr_nw h_13 hc_0 h_14 hc_1 h_15 hc_2 h_16 hc_3 hx0 hx1 hx2 hx3 h_17 h_60 h_61 h_62 h_84 h_85 h_86 h_144 h_208 h_209 h_210 h_211 h_212 h_213 h_214 h_215 h_216 h_217 h_219 h_222 h_63 h_87; omega) | omega) (q_iconst c_174_38 (q_goto (t := 43) c_174_39 rfl (q_istore_n c_174_43 (Nat.le_of_ble_eq_true rfl) (q_aload_n c_174_44 rfl ?_)))))))))
                refine q_dup c_174_45 rfl (v_gi (z := 4) (v := (nx F e1 a)) c_174_46 kf_8_108 rfl (Nat.le_of_ble_eq_true rfl) rfl rfl (h_231) (q_iconst c_174_49 (v_iadd (v := (nx F e1 a) + 1) c_174_50 rfl (v_pi (z := 4) c_174_51 kf_8_108 rfl (Nat.le_of_ble_eq_true rfl) rfl rfl rfl (by decide) (q_aload_n c_174_54 rfl ?_)))))
                have kn_232 : Hid (c_223 41 5 = (-1)) := (hF_225 41 5 (fun h => absurd h.2 (ni rfl))).trans (hc_1)
                have kn_233 : Hid (c_228 41 5 = (-1)) := (hF_230 41 5 (fun h => absurd h.2 (ni rfl))).trans (hid kn_232)
                have hI_234 := iw_41_4 (v := (nx F e1 a) + 1) hI_229 ⟨by first | exact rgp_l (rg_be h_61 (ha.1) ((rg_eq hg_e1 h_1).2)).1 (by decide) | omega, by first | exact rgp_h (rg_be h_61 (ha.1) ((rg_eq hg_e1 h_1).2)).2 (by decide) | omega⟩
                have kn_235 : Hid (c_64 1 1 = e1) := (hF_66 1 1 (fun h => absurd h.2 (ni rfl))).trans (hid kn_59)
                have kn_236 : Hid (c_228 41 3 = e1) := (hF_230 41 3 (fun h => absurd h.2 (ni rfl))).trans (hid kn_227)
                have kn_237 : Hid (c_64 1 5 = (-1)) := (hF_66 1 5 (fun h => absurd h.2 (ni rfl))).trans (hc_2)
                have kn_238 : Hid (c_64 (A + 7) 5 = nw) := (hF_66 (A + 7) 5 (fun h => absurd h.1 (np hA rfl rfl))).trans (hg_nw)
                have kn_239 : Hid (c_223 41 29 = nw) := (hF_225 41 29 (fun h => absurd h.2 (ni rfl))).trans (hr_nw)
                have kn_240 : Hid (c_228 41 29 = nw) := (hF_230 41 29 (fun h => absurd h.2 (ni rfl))).trans (hid kn_239)
                have kn_241 : Hid (c_223 41 7 = a2) := (hF_225 41 7 (fun h => absurd h.2 (ni rfl))).trans (hc_3)
                have kn_242 : Hid (c_228 41 7 = a2) := (hF_230 41 7 (fun h => absurd h.2 (ni rfl))).trans (hid kn_241)
                have h_243 : c_64 1 4 = 0 := (hid kn_79)
                have h_244 : c_64 1 2 = (nx F e1 a) + 1 := (hz_68)
                have h_245 : c_64 1 5 = (-1) := (hid kn_237)
                have h_246 : (up c_228 41 4 ((nx F e1 a) + 1)) 41 5 = (-1) := ((up_n (by decide)).trans (hid kn_233))
                have h_247 : (up c_228 41 4 ((nx F e1 a) + 1)) 41 4 = (nx F e1 a) + 1 := (up_e rfl)
                have h_248 := ir_41_6 hI2
                have kn_249 : Hid (c_223 41 6 = c2 41 6) := hF_225 41 6 (fun h => absurd h.2 (ni rfl))
                have kn_250 : Hid (c_228 41 6 = c2 41 6) := (hF_230 41 6 (fun h => absurd h.2 (ni rfl))).trans (hid kn_249)
                have h_251 : (up c_228 41 4 ((nx F e1 a) + 1)) 41 6 = c2 41 6 := ((up_n (by decide)).trans (hid kn_250))
                have hA_252 : Ce nw (c_64 (A + 9)) ((up c_228 41 4 ((nx F e1 a) + 1)) 50) ((up c_228 41 4 ((nx F e1 a) + 1)) 51) := ce_fr hrl0 (fun j => hF_66 (A + 9) j (fun h => absurd h.1 (np hA rfl rfl))) (fun j => (up_c (nn rfl)).trans ((hF_230 50 j (fun h => absurd h.1 (nn rfl))).trans (hF_225 50 j (fun h => absurd h.1 (nn rfl))))) (fun j => (up_c (nn rfl)).trans ((hF_230 51 j (fun h => absurd h.1 (nn rfl))).trans (hF_225 51 j (fun h => absurd h.1 (nn rfl)))))
                refine v_cv c_174_55 km_8_239 rfl rfl (Nat.le_of_ble_eq_true rfl) ⟨⟨rfl, rfl⟩, Nat.le_of_ble_eq_true rfl, rfl⟩ (Nat.le_of_ble_eq_true rfl) (Nat.le_of_ble_eq_true rfl) (L_12 (m := c_64) (a2 := a2) (e1 := e1) (f0 := 0) (g0 := (-1)) (p0 := (nx F e1 a) + 1) (n0 := nw) (o0 := a2) (F := F) (H := H) hI_234 hI_65 hI_81 hA (show 0 ≤ a2 ∧ a2 ≤ 6 from ha2) (by first | assumption | omega) (by first | assumption | omega) (by first | assumption | omega) (by first | exact q_6d1e0f202 h_61 hq3 hx0 | omega) (by first | exact q_9eaf88dc1 h_67 | omega) (by first | exact q_7024b37ce hq5 | omega) ((hid kn_235)) (((up_n (by decide)).trans (hid kn_236))) ((hid kn_79)) ((hid kn_237)) ((hz_68)) ((hid kn_238)) (((up_n (by decide)).trans (hid kn_240))) (((up_n (by decide)).trans (hid kn_242))) (fun j => ((hF_66 2 j (fun h => absurd h.1 (nn rfl))).trans (hFm 2 j (qn_0eac3bbbd hA))).trans (hF j)) (fun j => ((up_c (nn rfl)).trans ((hF_230 43 j (fun h => absurd h.1 (nn rfl))).trans ((hF_225 43 j (fun h => absurd h.1 (nn rfl))).trans (hFc 43 j qn_9b8df3fcd)))).trans (hH j)) hU (rt_i1 ⟨by first | assumption | omega, by first | assumption | omega, by first | assumption | omega, by first | assumption | omega⟩) (ce_le hA_252 (by omega)) H13 hG_83 (fun c_253 hI_254 hF_255 hR_257 h_258 h_259 hA_260 => (bk_inl ?_)))
                have h_261 := ir_41_29 hI_254
                have h_262 := ir_41_7 hI_254
                refine q_aload_n c_174_58 rfl (q_iload_n c_174_59 rfl (q_iconst c_174_60 (v_cv c_174_61 km_8_242 rfl rfl (Nat.le_of_ble_eq_true rfl) ⟨⟨rfl, rfl⟩, Nat.le_of_ble_eq_true rfl, rfl⟩ (Nat.le_of_ble_eq_true rfl) (Nat.le_of_ble_eq_true rfl) (q_aload_n c_170_0 rfl (v_cv c_170_1 km_8_131 rfl rfl (Nat.le_of_ble_eq_true rfl) ⟨⟨rfl, rfl⟩, Nat.le_of_ble_eq_true rfl, rfl⟩ (Nat.le_of_ble_eq_true rfl) (Nat.le_of_ble_eq_true rfl) (q_aload_n c_152_0 rfl ?_))))))
                have h_263 := ir_41_5 hI_254
                have h_264 := ir_41_4 hI_254
                have h_265 := ir_41_6 hI_254
                have h_266 := rt_bad hR_257 (by first | exact q_106d90f3b h_86 h_87 | omega)
                have hrb_hR_257 := rt_bad hR_257 (by first | exact q_f7b7d720f h_266 | omega)
                refine v_gi (z := 5) (v := c_80 1 5) c_152_1 kf_8_102 rfl (Nat.le_of_ble_eq_true rfl) rfl rfl hrb_hR_257.2.1 (q_iconst c_152_4 (v_ic_ne_t (t := 12) c_152_5 rfl ⟨by first | exact q_0f78863d3 h_266 | omega, ⟨(Int.le_trans (by decide) h_213.1), (Int.le_trans h_213.2 (by decide))⟩, by decide, by decide⟩ (q_iconst c_152_12 (v_zret c_152_13 rfl (by decide) (bk_inl (v_if_ne_f (t := 8) c_170_4 rfl (by decide) (q_vret rfl rfl ?_)))))))
                refine bk_inl (q_goto (t := 4) c_174_64 rfl (q_aload_n c_174_4 rfl (v_cv c_174_5 km_8_131 rfl rfl (Nat.le_of_ble_eq_true rfl) ⟨⟨rfl, rfl⟩, Nat.le_of_ble_eq_true rfl, rfl⟩ (Nat.le_of_ble_eq_true rfl) (Nat.le_of_ble_eq_true rfl) (q_aload_n c_152_0 rfl (v_gi (z := 5) (v := c_80 1 5) c_152_1 kf_8_102 rfl (Nat.le_of_ble_eq_true rfl) rfl rfl hrb_hR_257.2.1 (q_iconst c_152_4 (v_ic_ne_t (t := 12) c_152_5 rfl ⟨by first | exact q_0f78863d3 h_266 | omega, ⟨(Int.le_trans (by decide) h_213.1), (Int.le_trans h_213.2 (by decide))⟩, by decide, by decide⟩ ?_)))))))
                refine q_iconst c_152_12 (v_zret c_152_13 rfl (by decide) (bk_inl (v_if_eq_t (t := 67) c_174_8 rfl (by decide) (q_vret rfl rfl ?_))))
                have h_267 : c_253 41 5 = c_80 1 5 := hrb_hR_257.2.1
                have h_268 : c_253 41 6 = c_80 1 4 := hrb_hR_257.2.2.2
                exact K c_253  hI_254 (fun a j hm => (hF_255 a j hm).trans ((up_b (Decidable.or_iff_not_imp_left.mpr (fun h1 h2 => hm (Or.inl ⟨Decidable.not_not.mp h1, h2⟩)))).trans ((hF_230 a j (fun h => hm (Or.inl h))).trans ((hF_225 a j (fun h => hm (Or.inl h))).trans (hFc a j hm))))) (rt_i2 ⟨⟨by first | exact q_c4ab36c8d h_209 h_266 | omega, by first | exact q_c99d6ea93 h_208 | omega⟩, by first | exact q_88dc5fb99 h_215 | omega, by first | exact q_cb71117a2 h_215 h_266 | omega, by first | exact q_88dc5fb99 h_209 | omega⟩) (Or.inr (Or.inl (by first | exact q_374cd1df9 h_209 h_266 | omega))) (by first | exact q_cea541e22 h_259 | omega) (fun hz => absurd hz (by first | exact q_293b4c771 h_209 h_266 | omega))
          · refine v_ic_ge_f (t := 32) c_5_9 rfl ⟨(Int.le_trans (by decide) h_84.1), (Int.not_le.mp h_85), by decide⟩ (q_aload_n c_5_12 rfl (v_gr (t := (A + 9)) c_5_13 kf_0_15 (ck_p7 hA) (a68 hA rfl) rfl (q_aload_n c_5_16 rfl (v_gi (z := 5) (v := c_80 (A + 7) 5) c_5_17 kf_0_28 (ck_p7 hA) (a68 hA rfl) rfl rfl rfl (q_iload_n c_5_20 rfl (v_is c_5_21 (ck_p9 hA) (a68 hA rfl) (by decide) ⟨h_84.1, by first | exact q_cc605f3b6 h_85 | omega⟩ (q_aload_n c_5_22 rfl ?_)))))))
            refine q_dup c_5_23 rfl (v_gi (z := 5) (v := c_80 (A + 7) 5) c_5_24 kf_0_28 (ck_p7 hA) (a68 hA rfl) rfl rfl (up_c (pp rfl)) (q_iconst c_5_27 (v_iadd (v := c_80 (A + 7) 5 + 1) c_5_28 rfl (v_pi (z := 5) c_5_29 kf_0_28 (ck_p7 hA) (a68 hA rfl) rfl rfl rfl (by decide) (q_vret rfl rfl (bk_inl (v_iinc (v := v + 1) c_13_53 rfl (Nat.le_of_ble_eq_true rfl) rfl ?_)))))))
            refine q_goto (t := 8) c_13_56 rfl ?_
            have h_269 := ir_1_4 hI_81
            by_cases h_270 : c_80 1 4 = 0
            · skip
              have hI_271 := iw_lg (j := c_80 (A + 7) 5) (v := 2000) hI_81 (lgp (k := 9) hA (by decide)) ⟨by decide, by decide⟩ (by omega)
              have hI_272 := iw_p7_5 (v := c_80 (A + 7) 5 + 1) hI_271 hA ⟨by first | exact rgp_l h_84.1 (by decide) | omega, by first | exact q_e92c430a0 h_85 | omega⟩
              refine Wp_ls [(0, .ref (A + 7)), (1, .ref 1), (2, vi a2), (3, vi (v + 1))] (lsub_cons rfl (lsub_cons rfl (lsub_cons rfl (lsub_cons rfl lsub_nil)))) (gh_stop ((s_13_l (sc := sc) (d := dh + 22) (c := (up (up c_80 (A + 9) (c_80 (A + 7) 5) 2000) (A + 7) 5 (c_80 (A + 7) 5 + 1))) (a2 := a2) (Z := fun _ => True) hI_272 hA ha2 (fun c9 Z9 h hI9 K9 => r_13 (d := dh + 1) hI9 hA ⟨by omega, h⟩ K9) (fun _ _ _ => trivial) 304) (up (up c_80 (A + 9) (c_80 (A + 7) 5) 2000) (A + 7) 5 (c_80 (A + 7) 5 + 1)) (v + 1) hI_272 (fun a j hm => rfl) ⟨by omega, by omega⟩ (by omega)) (fun hG_273 => (q_aload_n c_174_4 rfl (v_cv c_174_5 km_8_131 rfl rfl (Nat.le_of_ble_eq_true rfl) ⟨⟨rfl, rfl⟩, Nat.le_of_ble_eq_true rfl, rfl⟩ (Nat.le_of_ble_eq_true rfl) (Nat.le_of_ble_eq_true rfl) (q_aload_n c_152_0 rfl (v_gi (z := 5) (v := (-1)) c_152_1 kf_8_102 rfl (Nat.le_of_ble_eq_true rfl) rfl rfl (hc_1) (q_iconst c_152_4 (v_ic_ne_f (t := 12) c_152_5 rfl (by decide) ?_))))))))
              refine q_iconst c_152_8 (q_goto (t := 13) c_152_9 rfl (v_zret c_152_13 rfl (by decide) (bk_inl (v_if_eq_f (t := 67) c_174_8 rfl (by decide) (q_aload_n c_174_11 rfl ?_)))))
              have kn_274 : Hid (c2 41 3 = e1) := (hFc 41 3 qn_d31ba9b5e).trans (hr_e1)
              have h_275 : -2147483648 ≤ (H (nx F e1 a)) ∧ (H (nx F e1 a)) ≤ 2147483647 := by rw [← hH (nx F e1 a)]; exact ir_43 hI (nx F e1 a)
              have h_276 := hU (nx F e1 a) ((rg_be h_61 (ha.1) ((rg_eq hg_e1 h_1).2)).1) (by first | exact q_fb95706d0 h_67 hq5 | omega)
              have h_277 := hb_or (b := H) (e := e1) (r := (nx F e1 a))
              have h_278 := hb_bd (b := H) (e := e1) (r := (nx F e1 a)) (lo := -2147483648) (hi := 2147483647) h_275 (by decide)
              refine v_cv c_174_12 km_8_114 rfl rfl (Nat.le_of_ble_eq_true rfl) ⟨⟨rfl, rfl⟩, Nat.le_of_ble_eq_true rfl, rfl⟩ (Nat.le_of_ble_eq_true rfl) (Nat.le_of_ble_eq_true rfl) (f_154 (e1 := e1) (a9 := a) (B := H) (r8 := (nx F e1 a)) (r := (hb H e1 (nx F e1 a))) hI2 ((hid kn_274)) ((hr_a)) (fun j => (hFc 43 j qn_9b8df3fcd).trans (hH j)) ((nx_tr hU (ha.1) ((rg_eq hg_e1 h_1).2)).trans (rfl)) rfl (fun c_279 hI_280 hF_281 h_282 => (bk_inl (v_bip c_174_15 (by decide) (v_ic_eq_t (t := 29) c_174_17 rfl (by first | (clear ha2 hq0 hq1 hq2 hq3 hq4 hq5 hv ha hnw h_1 hg_e1 h_2 hr_e1 h_3 hg_f0 h_4 hg_g0 h_5 hg_p0 h_6 hg_n0 h_7 hr_n0 h_8 hr_o0 h_9 hg_a h_10 hr_a h_11 hg_nw h_12 hr_nw h_13 hc_0 h_14 hc_1 h_15 hc_2 h_16 hc_3 hx0 hx1 hx2 hx3 h_17 h_60 h_61 h_62 h_84 h_85 h_269 h_270 h_275 h_278 h_63; omega) | omega) (q_aload_n c_174_29 rfl ?_))))))
              have kn_283 : Hid (c_279 41 3 = e1) := (hF_281 41 3 (fun h => absurd h.2 (ni rfl))).trans (hid kn_274)
              refine v_cv c_174_30 km_8_114 rfl rfl (Nat.le_of_ble_eq_true rfl) ⟨⟨rfl, rfl⟩, Nat.le_of_ble_eq_true rfl, rfl⟩ (Nat.le_of_ble_eq_true rfl) (Nat.le_of_ble_eq_true rfl) (f_154 (e1 := e1) (a9 := (nx F e1 a)) (B := H) (r8 := (nx F e1 a)) (r := (hb H e1 (nx F e1 a))) hI_280 ((hid kn_283)) ((h_282)) (fun j => ((hF_281 43 j (fun h => absurd h.1 (nn rfl))).trans (hFc 43 j qn_9b8df3fcd)).trans (hH j)) ((nx_tr hU ((rg_be h_61 (ha.1) ((rg_eq hg_e1 h_1).2)).1) ((rg_eq hg_e1 h_1).2)).trans ((nx_z (Or.inr (by first | exact q_e88b22bc2 h_67 | omega))))) rfl (fun c_284 hI_285 hF_286 h_287 => (bk_inl (v_bip c_174_33 (by decide) (v_ic_ne_f (t := 42) c_174_35 rfl (by first | (clear ha2 hq0 hq1 hq2 hq3 hq4 hq5 hv ha hnw h_1 hg_e1 h_2 hr_e1 h_3 hg_f0 h_4 hg_g0 h_5 hg_p0 h_6 hg_n0 h_7 hr_n0 h_8 hr_o0 h_9 hg_a h_10 hr_a h_11 hg_nw h_12 hr_nw h_13 hc_0 h_14 hc_1 h_15 hc_2 h_16 hc_3 hx0 hx1 hx2 hx3 h_17 h_60 h_61 h_62 h_84 h_85 h_269 h_270 h_275 h_278 h_63; omega) | omega) (q_iconst c_174_38 (q_goto (t := 43) c_174_39 rfl (q_istore_n c_174_43 (Nat.le_of_ble_eq_true rfl) (q_aload_n c_174_44 rfl ?_)))))))))
              refine q_dup c_174_45 rfl (v_gi (z := 4) (v := (nx F e1 a)) c_174_46 kf_8_108 rfl (Nat.le_of_ble_eq_true rfl) rfl rfl (h_287) (q_iconst c_174_49 (v_iadd (v := (nx F e1 a) + 1) c_174_50 rfl (v_pi (z := 4) c_174_51 kf_8_108 rfl (Nat.le_of_ble_eq_true rfl) rfl rfl rfl (by decide) (q_aload_n c_174_54 rfl ?_)))))
              have kn_288 : Hid (c_279 41 5 = (-1)) := (hF_281 41 5 (fun h => absurd h.2 (ni rfl))).trans (hc_1)
              have kn_289 : Hid (c_284 41 5 = (-1)) := (hF_286 41 5 (fun h => absurd h.2 (ni rfl))).trans (hid kn_288)
              have hI_290 := iw_41_4 (v := (nx F e1 a) + 1) hI_285 ⟨by first | exact rgp_l (rg_be h_61 (ha.1) ((rg_eq hg_e1 h_1).2)).1 (by decide) | omega, by first | exact rgp_h (rg_be h_61 (ha.1) ((rg_eq hg_e1 h_1).2)).2 (by decide) | omega⟩
              have kn_291 : Hid (c_64 1 1 = e1) := (hF_66 1 1 (fun h => absurd h.2 (ni rfl))).trans (hid kn_59)
              have kn_292 : Hid (c_284 41 3 = e1) := (hF_286 41 3 (fun h => absurd h.2 (ni rfl))).trans (hid kn_283)
              have kn_293 : Hid (c_64 1 5 = (-1)) := (hF_66 1 5 (fun h => absurd h.2 (ni rfl))).trans (hc_2)
              have kn_294 : Hid (c_64 (A + 7) 5 = nw) := (hF_66 (A + 7) 5 (fun h => absurd h.1 (np hA rfl rfl))).trans (hg_nw)
              have kn_295 : Hid (c_279 41 29 = nw) := (hF_281 41 29 (fun h => absurd h.2 (ni rfl))).trans (hr_nw)
              have kn_296 : Hid (c_284 41 29 = nw) := (hF_286 41 29 (fun h => absurd h.2 (ni rfl))).trans (hid kn_295)
              have kn_297 : Hid (c_279 41 7 = a2) := (hF_281 41 7 (fun h => absurd h.2 (ni rfl))).trans (hc_3)
              have kn_298 : Hid (c_284 41 7 = a2) := (hF_286 41 7 (fun h => absurd h.2 (ni rfl))).trans (hid kn_297)
              have h_299 : c_64 1 4 = 0 := (hid kn_79)
              have h_300 : c_64 1 2 = (nx F e1 a) + 1 := (hz_68)
              have h_301 : c_64 1 5 = (-1) := (hid kn_293)
              have h_302 : (up c_284 41 4 ((nx F e1 a) + 1)) 41 5 = (-1) := ((up_n (by decide)).trans (hid kn_289))
              have h_303 : (up c_284 41 4 ((nx F e1 a) + 1)) 41 4 = (nx F e1 a) + 1 := (up_e rfl)
              have h_304 := ir_41_6 hI2
              have kn_305 : Hid (c_279 41 6 = c2 41 6) := hF_281 41 6 (fun h => absurd h.2 (ni rfl))
              have kn_306 : Hid (c_284 41 6 = c2 41 6) := (hF_286 41 6 (fun h => absurd h.2 (ni rfl))).trans (hid kn_305)
              have h_307 : (up c_284 41 4 ((nx F e1 a) + 1)) 41 6 = c2 41 6 := ((up_n (by decide)).trans (hid kn_306))
              have hA_308 : Ce nw (c_64 (A + 9)) ((up c_284 41 4 ((nx F e1 a) + 1)) 50) ((up c_284 41 4 ((nx F e1 a) + 1)) 51) := ce_fr hrl0 (fun j => hF_66 (A + 9) j (fun h => absurd h.1 (np hA rfl rfl))) (fun j => (up_c (nn rfl)).trans ((hF_286 50 j (fun h => absurd h.1 (nn rfl))).trans (hF_281 50 j (fun h => absurd h.1 (nn rfl))))) (fun j => (up_c (nn rfl)).trans ((hF_286 51 j (fun h => absurd h.1 (nn rfl))).trans (hF_281 51 j (fun h => absurd h.1 (nn rfl)))))
              refine v_cv c_174_55 km_8_239 rfl rfl (Nat.le_of_ble_eq_true rfl) ⟨⟨rfl, rfl⟩, Nat.le_of_ble_eq_true rfl, rfl⟩ (Nat.le_of_ble_eq_true rfl) (Nat.le_of_ble_eq_true rfl) (L_12 (m := c_64) (a2 := a2) (e1 := e1) (f0 := 0) (g0 := (-1)) (p0 := (nx F e1 a) + 1) (n0 := nw) (o0 := a2) (F := F) (H := H) hI_290 hI_65 hI_81 hA (show 0 ≤ a2 ∧ a2 ≤ 6 from ha2) (by first | assumption | omega) (by first | assumption | omega) (by first | assumption | omega) (by first | exact q_6d1e0f202 h_61 hq3 hx0 | omega) (by first | exact q_9eaf88dc1 h_67 | omega) (by first | exact q_7024b37ce hq5 | omega) ((hid kn_291)) (((up_n (by decide)).trans (hid kn_292))) ((hid kn_79)) ((hid kn_293)) ((hz_68)) ((hid kn_294)) (((up_n (by decide)).trans (hid kn_296))) (((up_n (by decide)).trans (hid kn_298))) (fun j => ((hF_66 2 j (fun h => absurd h.1 (nn rfl))).trans (hFm 2 j (qn_0eac3bbbd hA))).trans (hF j)) (fun j => ((up_c (nn rfl)).trans ((hF_286 43 j (fun h => absurd h.1 (nn rfl))).trans ((hF_281 43 j (fun h => absurd h.1 (nn rfl))).trans (hFc 43 j qn_9b8df3fcd)))).trans (hH j)) hU (rt_i1 ⟨by first | assumption | omega, by first | assumption | omega, by first | assumption | omega, by first | assumption | omega⟩) (ce_le hA_308 (by omega)) H13 hG_83 (fun c_309 hI_310 hF_311 hR_313 h_314 h_315 hA_316 => (bk_inl ?_)))
              have h_317 := ir_41_29 hI_310
              have h_318 := ir_1_2 hI_81
              have h_319 := ir_41_7 hI_310
              refine q_aload_n c_174_58 rfl (q_iload_n c_174_59 rfl (q_iconst c_174_60 (v_cv c_174_61 km_8_242 rfl rfl (Nat.le_of_ble_eq_true rfl) ⟨⟨rfl, rfl⟩, Nat.le_of_ble_eq_true rfl, rfl⟩ (Nat.le_of_ble_eq_true rfl) (Nat.le_of_ble_eq_true rfl) (q_aload_n c_170_0 rfl (v_cv c_170_1 km_8_131 rfl rfl (Nat.le_of_ble_eq_true rfl) ⟨⟨rfl, rfl⟩, Nat.le_of_ble_eq_true rfl, rfl⟩ (Nat.le_of_ble_eq_true rfl) (Nat.le_of_ble_eq_true rfl) (q_aload_n c_152_0 rfl ?_))))))
              have h_320 := ir_41_5 hI_310
              have h_321 := ir_1_5 hI_81
              have h_322 := ir_41_4 hI_310
              have h_323 := ir_41_6 hI_310
              have h_324 := rt_ok hR_313 (by first | exact q_f6b658f58 h_269 h_270 | omega)
              have hro_hR_313 := rt_ok hR_313 (by first | exact q_f6b658f58 h_269 h_270 | omega)
              refine v_gi (z := 5) (v := (-1)) c_152_1 kf_8_102 rfl (Nat.le_of_ble_eq_true rfl) rfl rfl hro_hR_313.2.1 (q_iconst c_152_4 (v_ic_ne_f (t := 12) c_152_5 rfl (by decide) (q_iconst c_152_8 (q_goto (t := 13) c_152_9 rfl (v_zret c_152_13 rfl (by decide) (bk_inl (v_if_ne_t (t := 8) c_170_4 rfl (by decide) ?_)))))))
              refine q_aload_n c_170_8 rfl (v_gr (t := 50) c_170_9 kf_8_41 rfl (Nat.le_of_ble_eq_true rfl) rfl (q_aload_n c_170_12 rfl (v_gi (z := 29) (v := c_309 41 29) c_170_13 kf_8_236 rfl (Nat.le_of_ble_eq_true rfl) rfl rfl rfl (q_iload_n c_170_16 rfl (v_is c_170_17 rfl (by decide) (by decide) ⟨h_317.1, by first | exact q_33147edd1 h_269 h_270 h_314 h_85 | omega⟩ (q_aload_n c_170_18 rfl (v_gr (t := 51) c_170_19 kf_8_44 rfl (Nat.le_of_ble_eq_true rfl) rfl ?_)))))))
              refine q_aload_n c_170_22 rfl (v_gi (z := 29) (v := c_309 41 29) c_170_23 kf_8_236 rfl (Nat.le_of_ble_eq_true rfl) rfl rfl (up_c (nn rfl)) (q_iload_n c_170_26 rfl (v_is c_170_27 rfl (by decide) (by decide) ⟨h_317.1, by first | exact q_33147edd1 h_269 h_270 h_314 h_85 | omega⟩ (q_aload_n c_170_28 rfl (q_dup c_170_29 rfl (v_gi (z := 29) (v := c_309 41 29) c_170_30 kf_8_236 rfl (Nat.le_of_ble_eq_true rfl) rfl rfl ((up_c (nn rfl)).trans (up_c (nn rfl))) (q_iconst c_170_33 ?_)))))))
              refine v_iadd (v := c_309 41 29 + 1) c_170_34 rfl (v_pi (z := 29) c_170_35 kf_8_236 rfl (Nat.le_of_ble_eq_true rfl) rfl rfl rfl (by decide) (q_vret rfl rfl (bk_inl (q_goto (t := 4) c_174_64 rfl ?_))))
              have hI_325 := iw_50 (j := c_309 41 29) (v := 2) hI_310 ⟨by decide, by decide⟩
              have hI_326 := iw_51 (j := c_309 41 29) (v := 0) hI_325 ⟨by decide, by decide⟩
              have hI_327 := iw_41_29 (v := c_309 41 29 + 1) hI_326 ⟨by first | exact rgp_l h_317.1 (by decide) | omega, by first | exact q_6b2966f98 h_269 h_270 h_314 h_85 | omega⟩
              refine Wp_ls [(0, .ref 41)] (lsub_cons rfl lsub_nil) ?_
              have hA_328 : Ce (c_309 41 29 + 1) ((up (up c_80 (A + 9) (c_80 (A + 7) 5) 2000) (A + 7) 5 (c_80 (A + 7) 5 + 1)) (A + 9)) ((up (up (up c_309 50 (c_309 41 29) 2) 51 (c_309 41 29) 0) 41 29 (c_309 41 29 + 1)) 50) ((up (up (up c_309 50 (c_309 41 29) 2) 51 (c_309 41 29) 0) 41 29 (c_309 41 29 + 1)) 51) := ce_w (i := c_80 (A + 7) 5) (v := 2000) (w := 2) (o := 0) (hA_316 (by omega)) (by omega) ((up_c (pp rfl)).trans (up_e rfl)) ((up_c (nn rfl)).trans ((up_c (nn rfl)).trans (up_e (by omega)))) ((up_c (nn rfl)).trans (up_e (by omega))) (fun j hj => (up_c (pp rfl)).trans (up_n hj)) (fun j hj => (up_c (nn rfl)).trans ((up_c (nn rfl)).trans (up_n (by omega)))) (fun j hj => (up_c (nn rfl)).trans ((up_n (by omega)).trans (up_c (nn rfl)))) (cr_i2 ⟨by decide, by decide, by decide, by decide⟩)
              have hA_329 : Ce (c_80 (A + 7) 5 + 1) ((up (up c_80 (A + 9) (c_80 (A + 7) 5) 2000) (A + 7) 5 (c_80 (A + 7) 5 + 1)) (A + 9)) ((up (up (up c_309 50 (c_309 41 29) 2) 51 (c_309 41 29) 0) 41 29 (c_309 41 29 + 1)) 50) ((up (up (up c_309 50 (c_309 41 29) 2) 51 (c_309 41 29) 0) 41 29 (c_309 41 29 + 1)) 51) := ce_le hA_328 (by omega)
              exact ih (up (up (up c_309 50 (c_309 41 29) 2) 51 (c_309 41 29) 0) 41 29 (c_309 41 29 + 1)) (up (up c_80 (A + 9) (c_80 (A + 7) 5) 2000) (A + 7) 5 (c_80 (A + 7) 5 + 1)) (v + 1) (c_80 1 2) (c_80 (A + 7) 5 + 1) hI_327 (fun a j hm => (up_b (Decidable.or_iff_not_imp_left.mpr (fun h1 h2 => hm (Or.inr (Or.inr (Or.inr (Or.inr (Or.inl ⟨Decidable.not_not.mp h1, h2⟩)))))))).trans ((up_b (Decidable.or_iff_not_imp_left.mpr (fun h1 h2 => hm (Or.inr (Or.inr (Or.inr (Or.inr (Or.inr (Or.inr (Decidable.not_not.mp h1)))))))))).trans ((up_b (Decidable.or_iff_not_imp_left.mpr (fun h1 h2 => hm (Or.inr (Or.inr (Or.inr (Or.inr (Or.inr (Or.inl (Decidable.not_not.mp h1)))))))))).trans ((hF_311 a j hm).trans ((up_b (Decidable.or_iff_not_imp_left.mpr (fun h1 h2 => hm (Or.inl ⟨Decidable.not_not.mp h1, h2⟩)))).trans ((hF_286 a j (fun h => hm (Or.inl h))).trans ((hF_281 a j (fun h => hm (Or.inl h))).trans (hFc a j hm)))))))) hI_272 (fun a j hm => (up_b (Decidable.or_iff_not_imp_left.mpr (fun h1 h2 => hm (Or.inr (Or.inr (Or.inr (Or.inl ⟨Decidable.not_not.mp h1, h2⟩))))))).trans ((up_b (Decidable.or_iff_not_imp_left.mpr (fun h1 h2 => hm (Or.inr (Or.inr (Or.inr (Or.inr (Decidable.not_not.mp h1)))))))).trans ((hF_82 a j hm).trans ((hF_66 a j (fun h => hm (Or.inl h))).trans (hFm a j hm))))) ⟨by first | exact rgp_l hv.1 (by decide) | omega, by first | exact q_e92c430a0 h_17 | omega⟩ h_318 ⟨by first | exact rgp_l h_84.1 (by decide) | omega, by first | exact q_e92c430a0 h_85 | omega⟩ (((up_c (pn hA rfl rfl)).trans (up_c (pn hA rfl rfl)))) (((((up_n (by decide)).trans ((up_c (nn rfl)).trans (up_c (nn rfl))))).trans (hro_hR_313.2.2.1))) ((up_e rfl)) ((show _ = c_309 41 29 + 1 from (up_e rfl)).trans (by first | assumption | exact Int.le_antisymm (by first | exact q_15290d255 h_269 h_270 h_314 | omega) (by first | exact q_540c9f742 h_269 h_270 h_314 | omega))) ((show _ = c_80 1 4 from ((up_c (pn hA rfl rfl)).trans (up_c (pn hA rfl rfl)))).trans (by first | assumption | exact Int.le_antisymm (by first | exact q_d1e538aa4 h_270 | omega) (by first | exact q_eb3a7ad7a h_269 | omega))) (((((up_n (by decide)).trans ((up_c (nn rfl)).trans (up_c (nn rfl))))).trans (hro_hR_313.2.1))) ((show _ = c_80 1 5 from ((up_c (pn hA rfl rfl)).trans (up_c (pn hA rfl rfl)))).trans (by first | assumption | exact Int.le_antisymm (by first | exact q_10f95419d h_324 | omega) (by first | exact q_3d8b3e7e9 h_321 | omega))) ((show _ = c_309 41 7 from ((up_n (by decide)).trans ((up_c (nn rfl)).trans (up_c (nn rfl))))).trans (by first | assumption | exact Int.le_antisymm (by first | exact q_f85ce3c92 h_315 | omega) (by first | exact q_f91efb75c h_315 | omega))) (by first | exact q_f67ccb24f h_269 h_270 h_314 h_61 hx0 | omega) (by first | exact q_4e4884769 h_269 h_270 h_314 h_61 hx1 | omega) (by first | exact q_eacdcefed h_269 h_270 h_314 | omega) (by first | exact q_1b6cfd95b h_269 h_270 h_314 h_61 hx3 | omega) (ce_le hA_329 (by omega)) hG_273 (by omega)
            · skip
              refine q_iload_n c_13_8 rfl (v_sip c_13_9 (by decide) ?_)
              by_cases h_330 : v + 1 ≥ 150
              · refine v_ic_ge_t (t := 59) c_13_12 rfl ⟨by decide, h_330, by first | exact rgp_h hv.2 (by decide) | omega⟩ (q_vret rfl rfl ?_)
                have hI_331 := iw_lg (j := c_80 (A + 7) 5) (v := 2000) hI_81 (lgp (k := 9) hA (by decide)) ⟨by decide, by decide⟩ (by omega)
                have hI_332 := iw_p7_5 (v := c_80 (A + 7) 5 + 1) hI_331 hA ⟨by first | exact rgp_l h_84.1 (by decide) | omega, by first | exact q_e92c430a0 h_85 | omega⟩
                intro hE_333
                have hW : Wd P Q P P (up (up c_80 (A + 9) (c_80 (A + 7) 5) 2000) (A + 7) 5 (c_80 (A + 7) 5 + 1)) = Wd P Q P P m9 := (Prod.mk.inj (Prod.mk.inj hE_333).2).1
                have h_334 := ir_1_4 hJ9
                have h_335 : m9 1 4 = c_80 1 4 := wd_fv (z := 4) 4 rfl hW rfl rfl rfl rfl (by decide) ((up_c (pn hA rfl rfl)).trans (up_c (pn hA rfl rfl))) ⟨(Int.le_trans (by decide) h_269.1), (Int.le_trans h_269.2 (by decide))⟩ ⟨(Int.le_trans (by decide) h_334.1), (Int.le_trans h_334.2 (by decide))⟩
                have h_336 := ir_1_2 hI_81
                have h_337 := ir_1_2 hJ9
                have h_338 : m9 1 2 = c_80 1 2 := wd_fv (z := 2) 2 rfl hW rfl rfl rfl rfl (by decide) ((up_c (pn hA rfl rfl)).trans (up_c (pn hA rfl rfl))) ⟨(Int.le_trans (by decide) h_336.1), (Int.le_trans h_336.2 (by decide))⟩ ⟨(Int.le_trans (by decide) h_337.1), (Int.le_trans h_337.2 (by decide))⟩
                have h_339 := ir_1_5 hI_81
                have h_340 := ir_1_5 hJ9
                have h_341 : m9 1 5 = c_80 1 5 := wd_fv (z := 5) 5 rfl hW rfl rfl rfl rfl (by decide) ((up_c (pn hA rfl rfl)).trans (up_c (pn hA rfl rfl))) ⟨(Int.le_trans (by decide) h_339.1), (Int.le_trans h_339.2 (by decide))⟩ ⟨(Int.le_trans (by decide) h_340.1), (Int.le_trans h_340.2 (by decide))⟩
                have h_342 := ir_p7_5 hJ9 hA
                have h_343 : m9 (A + 7) 5 = c_80 (A + 7) 5 + 1 := wd_fv (z := 5) 5 rfl hW (ck_p7 hA) (ck_p7 hA) rfl rfl (a68 hA rfl) (up_e rfl) ⟨by first | exact rgp_l h_84.1 (by decide) | omega, by first | exact rgp_h h_84.2 (by decide) | omega⟩ ⟨(Int.le_trans (by decide) h_342.1), (Int.le_trans h_342.2 (by decide))⟩
                refine q_aload_n c_174_4 rfl (v_cv c_174_5 km_8_131 rfl rfl (Nat.le_of_ble_eq_true rfl) ⟨⟨rfl, rfl⟩, Nat.le_of_ble_eq_true rfl, rfl⟩ (Nat.le_of_ble_eq_true rfl) (Nat.le_of_ble_eq_true rfl) (q_aload_n c_152_0 rfl (v_gi (z := 5) (v := (-1)) c_152_1 kf_8_102 rfl (Nat.le_of_ble_eq_true rfl) rfl rfl (hc_1) (q_iconst c_152_4 (v_ic_ne_f (t := 12) c_152_5 rfl (by decide) (q_iconst c_152_8 (q_goto (t := 13) c_152_9 rfl ?_)))))))
                refine v_zret c_152_13 rfl (by decide) (bk_inl (v_if_eq_f (t := 67) c_174_8 rfl (by decide) (q_aload_n c_174_11 rfl ?_)))
                have kn_344 : Hid (c2 41 3 = e1) := (hFc 41 3 qn_d31ba9b5e).trans (hr_e1)
                have h_345 : -2147483648 ≤ (H (nx F e1 a)) ∧ (H (nx F e1 a)) ≤ 2147483647 := by rw [← hH (nx F e1 a)]; exact ir_43 hI (nx F e1 a)
                have h_346 := hU (nx F e1 a) ((rg_be h_61 (ha.1) ((rg_eq hg_e1 h_1).2)).1) (by first | exact q_fb95706d0 h_67 hq5 | omega)
                have h_347 := hb_or (b := H) (e := e1) (r := (nx F e1 a))
                have h_348 := hb_bd (b := H) (e := e1) (r := (nx F e1 a)) (lo := -2147483648) (hi := 2147483647) h_345 (by decide)
                refine v_cv c_174_12 km_8_114 rfl rfl (Nat.le_of_ble_eq_true rfl) ⟨⟨rfl, rfl⟩, Nat.le_of_ble_eq_true rfl, rfl⟩ (Nat.le_of_ble_eq_true rfl) (Nat.le_of_ble_eq_true rfl) (f_154 (e1 := e1) (a9 := a) (B := H) (r8 := (nx F e1 a)) (r := (hb H e1 (nx F e1 a))) hI2 ((hid kn_344)) ((hr_a)) (fun j => (hFc 43 j qn_9b8df3fcd).trans (hH j)) ((nx_tr hU (ha.1) ((rg_eq hg_e1 h_1).2)).trans (rfl)) rfl (fun c_349 hI_350 hF_351 h_352 => (bk_inl (v_bip c_174_15 (by decide) (v_ic_eq_t (t := 29) c_174_17 rfl (by first | (clear ha2 hq0 hq1 hq2 hq3 hq4 hq5 hv ha hnw h_1 hg_e1 h_2 hr_e1 h_3 hg_f0 h_4 hg_g0 h_5 hg_p0 h_6 hg_n0 h_7 hr_n0 h_8 hr_o0 h_9 hg_a h_10 hr_a h_11 hg_nw h_12 hr_nw h_13 hc_0 h_14 hc_1 h_15 hc_2 h_16 hc_3 hx0 hx1 hx2 hx3 h_17 h_60 h_61 h_62 h_84 h_85 h_269 h_330 h_334 h_335 h_336 h_337 h_338 h_339 h_340 h_341 h_342 h_343 h_345 h_348 h_63 h_270; omega) | omega) (q_aload_n c_174_29 rfl ?_))))))
                have kn_353 : Hid (c_349 41 3 = e1) := (hF_351 41 3 (fun h => absurd h.2 (ni rfl))).trans (hid kn_344)
                refine v_cv c_174_30 km_8_114 rfl rfl (Nat.le_of_ble_eq_true rfl) ⟨⟨rfl, rfl⟩, Nat.le_of_ble_eq_true rfl, rfl⟩ (Nat.le_of_ble_eq_true rfl) (Nat.le_of_ble_eq_true rfl) (f_154 (e1 := e1) (a9 := (nx F e1 a)) (B := H) (r8 := (nx F e1 a)) (r := (hb H e1 (nx F e1 a))) hI_350 ((hid kn_353)) ((h_352)) (fun j => ((hF_351 43 j (fun h => absurd h.1 (nn rfl))).trans (hFc 43 j qn_9b8df3fcd)).trans (hH j)) ((nx_tr hU ((rg_be h_61 (ha.1) ((rg_eq hg_e1 h_1).2)).1) ((rg_eq hg_e1 h_1).2)).trans ((nx_z (Or.inr (by first | exact q_e88b22bc2 h_67 | omega))))) rfl (fun c_354 hI_355 hF_356 h_357 => (bk_inl (v_bip c_174_33 (by decide) (v_ic_ne_f (t := 42) c_174_35 rfl (by first | (clear ha2 hq0 hq1 hq2 hq3 hq4 hq5 hv ha hnw h_1 hg_e1 h_2 hr_e1 h_3 hg_f0 h_4 hg_g0 h_5 hg_p0 h_6 hg_n0 h_7 hr_n0 h_8 hr_o0 h_9 hg_a h_10 hr_a h_11 hg_nw h_12 hr_nw h_13 hc_0 h_14 hc_1 h_15 hc_2 h_16 hc_3 hx0 hx1 hx2 hx3 h_17 h_60 h_61 h_62 h_84 h_85 h_269 h_330 h_334 h_335 h_336 h_337 h_338 h_339 h_340 h_341 h_342 h_343 h_345 h_348 h_63 h_270; omega) | omega) (q_iconst c_174_38 (q_goto (t := 43) c_174_39 rfl (q_istore_n c_174_43 (Nat.le_of_ble_eq_true rfl) (q_aload_n c_174_44 rfl ?_)))))))))
                refine q_dup c_174_45 rfl (v_gi (z := 4) (v := (nx F e1 a)) c_174_46 kf_8_108 rfl (Nat.le_of_ble_eq_true rfl) rfl rfl (h_357) (q_iconst c_174_49 (v_iadd (v := (nx F e1 a) + 1) c_174_50 rfl (v_pi (z := 4) c_174_51 kf_8_108 rfl (Nat.le_of_ble_eq_true rfl) rfl rfl rfl (by decide) (q_aload_n c_174_54 rfl ?_)))))
                have kn_358 : Hid (c_349 41 5 = (-1)) := (hF_351 41 5 (fun h => absurd h.2 (ni rfl))).trans (hc_1)
                have kn_359 : Hid (c_354 41 5 = (-1)) := (hF_356 41 5 (fun h => absurd h.2 (ni rfl))).trans (hid kn_358)
                have hI_360 := iw_41_4 (v := (nx F e1 a) + 1) hI_355 ⟨by first | exact rgp_l (rg_be h_61 (ha.1) ((rg_eq hg_e1 h_1).2)).1 (by decide) | omega, by first | exact rgp_h (rg_be h_61 (ha.1) ((rg_eq hg_e1 h_1).2)).2 (by decide) | omega⟩
                have kn_361 : Hid (c_64 1 1 = e1) := (hF_66 1 1 (fun h => absurd h.2 (ni rfl))).trans (hid kn_59)
                have kn_362 : Hid (c_354 41 3 = e1) := (hF_356 41 3 (fun h => absurd h.2 (ni rfl))).trans (hid kn_353)
                have kn_363 : Hid (c_64 1 5 = (-1)) := (hF_66 1 5 (fun h => absurd h.2 (ni rfl))).trans (hc_2)
                have kn_364 : Hid (c_64 (A + 7) 5 = nw) := (hF_66 (A + 7) 5 (fun h => absurd h.1 (np hA rfl rfl))).trans (hg_nw)
                have kn_365 : Hid (c_349 41 29 = nw) := (hF_351 41 29 (fun h => absurd h.2 (ni rfl))).trans (hr_nw)
                have kn_366 : Hid (c_354 41 29 = nw) := (hF_356 41 29 (fun h => absurd h.2 (ni rfl))).trans (hid kn_365)
                have kn_367 : Hid (c_349 41 7 = a2) := (hF_351 41 7 (fun h => absurd h.2 (ni rfl))).trans (hc_3)
                have kn_368 : Hid (c_354 41 7 = a2) := (hF_356 41 7 (fun h => absurd h.2 (ni rfl))).trans (hid kn_367)
                have h_369 : c_64 1 4 = 0 := (hid kn_79)
                have h_370 : c_64 1 2 = (nx F e1 a) + 1 := (hz_68)
                have h_371 : c_64 1 5 = (-1) := (hid kn_363)
                have h_372 : (up c_354 41 4 ((nx F e1 a) + 1)) 41 5 = (-1) := ((up_n (by decide)).trans (hid kn_359))
                have h_373 : (up c_354 41 4 ((nx F e1 a) + 1)) 41 4 = (nx F e1 a) + 1 := (up_e rfl)
                have h_374 := ir_41_6 hI2
                have kn_375 : Hid (c_349 41 6 = c2 41 6) := hF_351 41 6 (fun h => absurd h.2 (ni rfl))
                have kn_376 : Hid (c_354 41 6 = c2 41 6) := (hF_356 41 6 (fun h => absurd h.2 (ni rfl))).trans (hid kn_375)
                have h_377 : (up c_354 41 4 ((nx F e1 a) + 1)) 41 6 = c2 41 6 := ((up_n (by decide)).trans (hid kn_376))
                have hA_378 : Ce nw (c_64 (A + 9)) ((up c_354 41 4 ((nx F e1 a) + 1)) 50) ((up c_354 41 4 ((nx F e1 a) + 1)) 51) := ce_fr hrl0 (fun j => hF_66 (A + 9) j (fun h => absurd h.1 (np hA rfl rfl))) (fun j => (up_c (nn rfl)).trans ((hF_356 50 j (fun h => absurd h.1 (nn rfl))).trans (hF_351 50 j (fun h => absurd h.1 (nn rfl))))) (fun j => (up_c (nn rfl)).trans ((hF_356 51 j (fun h => absurd h.1 (nn rfl))).trans (hF_351 51 j (fun h => absurd h.1 (nn rfl)))))
                refine v_cv c_174_55 km_8_239 rfl rfl (Nat.le_of_ble_eq_true rfl) ⟨⟨rfl, rfl⟩, Nat.le_of_ble_eq_true rfl, rfl⟩ (Nat.le_of_ble_eq_true rfl) (Nat.le_of_ble_eq_true rfl) (L_12 (m := c_64) (a2 := a2) (e1 := e1) (f0 := 0) (g0 := (-1)) (p0 := (nx F e1 a) + 1) (n0 := nw) (o0 := a2) (F := F) (H := H) hI_360 hI_65 hI_81 hA (show 0 ≤ a2 ∧ a2 ≤ 6 from ha2) (by first | assumption | omega) (by first | assumption | omega) (by first | assumption | omega) (by first | exact q_6d1e0f202 h_61 hq3 hx0 | omega) (by first | exact q_9eaf88dc1 h_67 | omega) (by first | exact q_7024b37ce hq5 | omega) ((hid kn_361)) (((up_n (by decide)).trans (hid kn_362))) ((hid kn_79)) ((hid kn_363)) ((hz_68)) ((hid kn_364)) (((up_n (by decide)).trans (hid kn_366))) (((up_n (by decide)).trans (hid kn_368))) (fun j => ((hF_66 2 j (fun h => absurd h.1 (nn rfl))).trans (hFm 2 j (qn_0eac3bbbd hA))).trans (hF j)) (fun j => ((up_c (nn rfl)).trans ((hF_356 43 j (fun h => absurd h.1 (nn rfl))).trans ((hF_351 43 j (fun h => absurd h.1 (nn rfl))).trans (hFc 43 j qn_9b8df3fcd)))).trans (hH j)) hU (rt_i1 ⟨by first | assumption | omega, by first | assumption | omega, by first | assumption | omega, by first | assumption | omega⟩) (ce_le hA_378 (by omega)) H13 hG_83 (fun c_379 hI_380 hF_381 hR_383 h_384 h_385 hA_386 => (bk_inl ?_)))
                have h_387 := ir_41_29 hI_380
                have h_388 := ir_41_7 hI_380
                refine q_aload_n c_174_58 rfl (q_iload_n c_174_59 rfl (q_iconst c_174_60 (v_cv c_174_61 km_8_242 rfl rfl (Nat.le_of_ble_eq_true rfl) ⟨⟨rfl, rfl⟩, Nat.le_of_ble_eq_true rfl, rfl⟩ (Nat.le_of_ble_eq_true rfl) (Nat.le_of_ble_eq_true rfl) (q_aload_n c_170_0 rfl (v_cv c_170_1 km_8_131 rfl rfl (Nat.le_of_ble_eq_true rfl) ⟨⟨rfl, rfl⟩, Nat.le_of_ble_eq_true rfl, rfl⟩ (Nat.le_of_ble_eq_true rfl) (Nat.le_of_ble_eq_true rfl) (q_aload_n c_152_0 rfl ?_))))))
                have h_389 := ir_41_5 hI_380
                have h_390 := ir_41_4 hI_380
                have h_391 := ir_41_6 hI_380
                have h_392 := rt_bad hR_383 (by first | exact q_106d90f3b h_269 h_270 | omega)
                have hrb_hR_383 := rt_bad hR_383 (by first | exact q_f7b7d720f h_392 | omega)
                refine v_gi (z := 5) (v := c_80 1 5) c_152_1 kf_8_102 rfl (Nat.le_of_ble_eq_true rfl) rfl rfl hrb_hR_383.2.1 (q_iconst c_152_4 (v_ic_ne_t (t := 12) c_152_5 rfl ⟨by first | exact q_0f78863d3 h_392 | omega, ⟨(Int.le_trans (by decide) h_339.1), (Int.le_trans h_339.2 (by decide))⟩, by decide, by decide⟩ (q_iconst c_152_12 (v_zret c_152_13 rfl (by decide) (bk_inl (v_if_ne_f (t := 8) c_170_4 rfl (by decide) (q_vret rfl rfl ?_)))))))
                refine bk_inl (q_goto (t := 4) c_174_64 rfl (q_aload_n c_174_4 rfl (v_cv c_174_5 km_8_131 rfl rfl (Nat.le_of_ble_eq_true rfl) ⟨⟨rfl, rfl⟩, Nat.le_of_ble_eq_true rfl, rfl⟩ (Nat.le_of_ble_eq_true rfl) (Nat.le_of_ble_eq_true rfl) (q_aload_n c_152_0 rfl (v_gi (z := 5) (v := c_80 1 5) c_152_1 kf_8_102 rfl (Nat.le_of_ble_eq_true rfl) rfl rfl hrb_hR_383.2.1 (q_iconst c_152_4 (v_ic_ne_t (t := 12) c_152_5 rfl ⟨by first | exact q_0f78863d3 h_392 | omega, ⟨(Int.le_trans (by decide) h_339.1), (Int.le_trans h_339.2 (by decide))⟩, by decide, by decide⟩ ?_)))))))
                refine q_iconst c_152_12 (v_zret c_152_13 rfl (by decide) (bk_inl (v_if_eq_t (t := 67) c_174_8 rfl (by decide) (q_vret rfl rfl ?_))))
                have h_393 : c_379 41 5 = c_80 1 5 := hrb_hR_383.2.1
                have h_394 : c_379 41 6 = c_80 1 4 := hrb_hR_383.2.2.2
                exact K c_379  hI_380 (fun a j hm => (hF_381 a j hm).trans ((up_b (Decidable.or_iff_not_imp_left.mpr (fun h1 h2 => hm (Or.inl ⟨Decidable.not_not.mp h1, h2⟩)))).trans ((hF_356 a j (fun h => hm (Or.inl h))).trans ((hF_351 a j (fun h => hm (Or.inl h))).trans (hFc a j hm))))) (rt_i2 ⟨⟨by first | exact q_c4ab36c8d h_335 h_392 | omega, by first | exact q_c99d6ea93 h_334 | omega⟩, by first | exact q_88dc5fb99 h_341 | omega, by first | exact q_cb71117a2 h_341 h_392 | omega, by first | exact q_88dc5fb99 h_335 | omega⟩) (Or.inr (Or.inl (by first | exact q_374cd1df9 h_335 h_392 | omega))) (by first | exact q_cea541e22 h_385 | omega) (fun hz => absurd hz (by first | exact q_293b4c771 h_335 h_392 | omega))
              · refine v_ic_ge_f (t := 59) c_13_12 rfl ⟨by first | exact rgp_l hv.1 (by decide) | omega, (Int.not_le.mp h_330), by decide⟩ (q_aload_n c_13_15 rfl (v_cv c_13_16 km_0_40 rfl rfl (Nat.le_of_ble_eq_true rfl) ⟨⟨rfl, rfl⟩, Nat.le_of_ble_eq_true rfl, rfl⟩ (Nat.le_of_ble_eq_true rfl) (Nat.le_of_ble_eq_true rfl) (q_aload_n c_2_0 rfl (v_gi (z := 4) (v := c_80 1 4) c_2_1 kf_5_38 rfl (Nat.le_of_ble_eq_true rfl) rfl rfl ((up_c (pn hA rfl rfl)).trans (up_c (pn hA rfl rfl))) (v_if_ne_t (t := 11) c_2_4 rfl ⟨by first | exact q_106d90f3b h_269 h_270 | omega, ⟨(Int.le_trans (by decide) h_269.1), (Int.le_trans h_269.2 (by decide))⟩, by decide, by decide⟩ (q_iconst c_2_11 (v_zret c_2_12 rfl (by decide) ?_)))))))
                refine bk_inl (v_if_eq_t (t := 59) c_13_19 rfl (by decide) (q_vret rfl rfl ?_))
                have hI_395 := iw_lg (j := c_80 (A + 7) 5) (v := 2000) hI_81 (lgp (k := 9) hA (by decide)) ⟨by decide, by decide⟩ (by omega)
                have hI_396 := iw_p7_5 (v := c_80 (A + 7) 5 + 1) hI_395 hA ⟨by first | exact rgp_l h_84.1 (by decide) | omega, by first | exact q_e92c430a0 h_85 | omega⟩
                intro hE_397
                have hW : Wd P Q P P (up (up c_80 (A + 9) (c_80 (A + 7) 5) 2000) (A + 7) 5 (c_80 (A + 7) 5 + 1)) = Wd P Q P P m9 := (Prod.mk.inj (Prod.mk.inj hE_397).2).1
                have h_398 := ir_1_4 hJ9
                have h_399 : m9 1 4 = c_80 1 4 := wd_fv (z := 4) 4 rfl hW rfl rfl rfl rfl (by decide) ((up_c (pn hA rfl rfl)).trans (up_c (pn hA rfl rfl))) ⟨(Int.le_trans (by decide) h_269.1), (Int.le_trans h_269.2 (by decide))⟩ ⟨(Int.le_trans (by decide) h_398.1), (Int.le_trans h_398.2 (by decide))⟩
                have h_400 := ir_1_2 hI_81
                have h_401 := ir_1_2 hJ9
                have h_402 : m9 1 2 = c_80 1 2 := wd_fv (z := 2) 2 rfl hW rfl rfl rfl rfl (by decide) ((up_c (pn hA rfl rfl)).trans (up_c (pn hA rfl rfl))) ⟨(Int.le_trans (by decide) h_400.1), (Int.le_trans h_400.2 (by decide))⟩ ⟨(Int.le_trans (by decide) h_401.1), (Int.le_trans h_401.2 (by decide))⟩
                have h_403 := ir_1_5 hI_81
                have h_404 := ir_1_5 hJ9
                have h_405 : m9 1 5 = c_80 1 5 := wd_fv (z := 5) 5 rfl hW rfl rfl rfl rfl (by decide) ((up_c (pn hA rfl rfl)).trans (up_c (pn hA rfl rfl))) ⟨(Int.le_trans (by decide) h_403.1), (Int.le_trans h_403.2 (by decide))⟩ ⟨(Int.le_trans (by decide) h_404.1), (Int.le_trans h_404.2 (by decide))⟩
                have h_406 := ir_p7_5 hJ9 hA
                have h_407 : m9 (A + 7) 5 = c_80 (A + 7) 5 + 1 := wd_fv (z := 5) 5 rfl hW (ck_p7 hA) (ck_p7 hA) rfl rfl (a68 hA rfl) (up_e rfl) ⟨by first | exact rgp_l h_84.1 (by decide) | omega, by first | exact rgp_h h_84.2 (by decide) | omega⟩ ⟨(Int.le_trans (by decide) h_406.1), (Int.le_trans h_406.2 (by decide))⟩
                refine q_aload_n c_174_4 rfl (v_cv c_174_5 km_8_131 rfl rfl (Nat.le_of_ble_eq_true rfl) ⟨⟨rfl, rfl⟩, Nat.le_of_ble_eq_true rfl, rfl⟩ (Nat.le_of_ble_eq_true rfl) (Nat.le_of_ble_eq_true rfl) (q_aload_n c_152_0 rfl (v_gi (z := 5) (v := (-1)) c_152_1 kf_8_102 rfl (Nat.le_of_ble_eq_true rfl) rfl rfl (hc_1) (q_iconst c_152_4 (v_ic_ne_f (t := 12) c_152_5 rfl (by decide) (q_iconst c_152_8 (q_goto (t := 13) c_152_9 rfl ?_)))))))
                refine v_zret c_152_13 rfl (by decide) (bk_inl (v_if_eq_f (t := 67) c_174_8 rfl (by decide) (q_aload_n c_174_11 rfl ?_)))
                have kn_408 : Hid (c2 41 3 = e1) := (hFc 41 3 qn_d31ba9b5e).trans (hr_e1)
                have h_409 : -2147483648 ≤ (H (nx F e1 a)) ∧ (H (nx F e1 a)) ≤ 2147483647 := by rw [← hH (nx F e1 a)]; exact ir_43 hI (nx F e1 a)
                have h_410 := hU (nx F e1 a) ((rg_be h_61 (ha.1) ((rg_eq hg_e1 h_1).2)).1) (by first | exact q_fb95706d0 h_67 hq5 | omega)
                have h_411 := hb_or (b := H) (e := e1) (r := (nx F e1 a))
                have h_412 := hb_bd (b := H) (e := e1) (r := (nx F e1 a)) (lo := -2147483648) (hi := 2147483647) h_409 (by decide)
                refine v_cv c_174_12 km_8_114 rfl rfl (Nat.le_of_ble_eq_true rfl) ⟨⟨rfl, rfl⟩, Nat.le_of_ble_eq_true rfl, rfl⟩ (Nat.le_of_ble_eq_true rfl) (Nat.le_of_ble_eq_true rfl) (f_154 (e1 := e1) (a9 := a) (B := H) (r8 := (nx F e1 a)) (r := (hb H e1 (nx F e1 a))) hI2 ((hid kn_408)) ((hr_a)) (fun j => (hFc 43 j qn_9b8df3fcd).trans (hH j)) ((nx_tr hU (ha.1) ((rg_eq hg_e1 h_1).2)).trans (rfl)) rfl (fun c_413 hI_414 hF_415 h_416 => (bk_inl (v_bip c_174_15 (by decide) (v_ic_eq_t (t := 29) c_174_17 rfl (by first | (clear ha2 hq0 hq1 hq2 hq3 hq4 hq5 hv ha hnw h_1 hg_e1 h_2 hr_e1 h_3 hg_f0 h_4 hg_g0 h_5 hg_p0 h_6 hg_n0 h_7 hr_n0 h_8 hr_o0 h_9 hg_a h_10 hr_a h_11 hg_nw h_12 hr_nw h_13 hc_0 h_14 hc_1 h_15 hc_2 h_16 hc_3 hx0 hx1 hx2 hx3 h_17 h_60 h_61 h_62 h_84 h_85 h_269 h_330 h_398 h_399 h_400 h_401 h_402 h_403 h_404 h_405 h_406 h_407 h_409 h_412 h_63 h_270; omega) | omega) (q_aload_n c_174_29 rfl ?_))))))
                have kn_417 : Hid (c_413 41 3 = e1) := (hF_415 41 3 (fun h => absurd h.2 (ni rfl))).trans (hid kn_408)
                refine v_cv c_174_30 km_8_114 rfl rfl (Nat.le_of_ble_eq_true rfl) ⟨⟨rfl, rfl⟩, Nat.le_of_ble_eq_true rfl, rfl⟩ (Nat.le_of_ble_eq_true rfl) (Nat.le_of_ble_eq_true rfl) (f_154 (e1 := e1) (a9 := (nx F e1 a)) (B := H) (r8 := (nx F e1 a)) (r := (hb H e1 (nx F e1 a))) hI_414 ((hid kn_417)) ((h_416)) (fun j => ((hF_415 43 j (fun h => absurd h.1 (nn rfl))).trans (hFc 43 j qn_9b8df3fcd)).trans (hH j)) ((nx_tr hU ((rg_be h_61 (ha.1) ((rg_eq hg_e1 h_1).2)).1) ((rg_eq hg_e1 h_1).2)).trans ((nx_z (Or.inr (by first | exact q_e88b22bc2 h_67 | omega))))) rfl (fun c_418 hI_419 hF_420 h_421 => (bk_inl (v_bip c_174_33 (by decide) (v_ic_ne_f (t := 42) c_174_35 rfl (by first | (clear ha2 hq0 hq1 hq2 hq3 hq4 hq5 hv ha hnw h_1 hg_e1 h_2 hr_e1 h_3 hg_f0 h_4 hg_g0 h_5 hg_p0 h_6 hg_n0 h_7 hr_n0 h_8 hr_o0 h_9 hg_a h_10 hr_a h_11 hg_nw h_12 hr_nw h_13 hc_0 h_14 hc_1 h_15 hc_2 h_16 hc_3 hx0 hx1 hx2 hx3 h_17 h_60 h_61 h_62 h_84 h_85 h_269 h_330 h_398 h_399 h_400 h_401 h_402 h_403 h_404 h_405 h_406 h_407 h_409 h_412 h_63 h_270; omega) | omega) (q_iconst c_174_38 (q_goto (t := 43) c_174_39 rfl (q_istore_n c_174_43 (Nat.le_of_ble_eq_true rfl) (q_aload_n c_174_44 rfl ?_)))))))))
                refine q_dup c_174_45 rfl (v_gi (z := 4) (v := (nx F e1 a)) c_174_46 kf_8_108 rfl (Nat.le_of_ble_eq_true rfl) rfl rfl (h_421) (q_iconst c_174_49 (v_iadd (v := (nx F e1 a) + 1) c_174_50 rfl (v_pi (z := 4) c_174_51 kf_8_108 rfl (Nat.le_of_ble_eq_true rfl) rfl rfl rfl (by decide) (q_aload_n c_174_54 rfl ?_)))))
                have kn_422 : Hid (c_413 41 5 = (-1)) := (hF_415 41 5 (fun h => absurd h.2 (ni rfl))).trans (hc_1)
                have kn_423 : Hid (c_418 41 5 = (-1)) := (hF_420 41 5 (fun h => absurd h.2 (ni rfl))).trans (hid kn_422)
                have hI_424 := iw_41_4 (v := (nx F e1 a) + 1) hI_419 ⟨by first | exact rgp_l (rg_be h_61 (ha.1) ((rg_eq hg_e1 h_1).2)).1 (by decide) | omega, by first | exact rgp_h (rg_be h_61 (ha.1) ((rg_eq hg_e1 h_1).2)).2 (by decide) | omega⟩
                have kn_425 : Hid (c_64 1 1 = e1) := (hF_66 1 1 (fun h => absurd h.2 (ni rfl))).trans (hid kn_59)
                have kn_426 : Hid (c_418 41 3 = e1) := (hF_420 41 3 (fun h => absurd h.2 (ni rfl))).trans (hid kn_417)
                have kn_427 : Hid (c_64 1 5 = (-1)) := (hF_66 1 5 (fun h => absurd h.2 (ni rfl))).trans (hc_2)
                have kn_428 : Hid (c_64 (A + 7) 5 = nw) := (hF_66 (A + 7) 5 (fun h => absurd h.1 (np hA rfl rfl))).trans (hg_nw)
                have kn_429 : Hid (c_413 41 29 = nw) := (hF_415 41 29 (fun h => absurd h.2 (ni rfl))).trans (hr_nw)
                have kn_430 : Hid (c_418 41 29 = nw) := (hF_420 41 29 (fun h => absurd h.2 (ni rfl))).trans (hid kn_429)
                have kn_431 : Hid (c_413 41 7 = a2) := (hF_415 41 7 (fun h => absurd h.2 (ni rfl))).trans (hc_3)
                have kn_432 : Hid (c_418 41 7 = a2) := (hF_420 41 7 (fun h => absurd h.2 (ni rfl))).trans (hid kn_431)
                have h_433 : c_64 1 4 = 0 := (hid kn_79)
                have h_434 : c_64 1 2 = (nx F e1 a) + 1 := (hz_68)
                have h_435 : c_64 1 5 = (-1) := (hid kn_427)
                have h_436 : (up c_418 41 4 ((nx F e1 a) + 1)) 41 5 = (-1) := ((up_n (by decide)).trans (hid kn_423))
                have h_437 : (up c_418 41 4 ((nx F e1 a) + 1)) 41 4 = (nx F e1 a) + 1 := (up_e rfl)
                have h_438 := ir_41_6 hI2
                have kn_439 : Hid (c_413 41 6 = c2 41 6) := hF_415 41 6 (fun h => absurd h.2 (ni rfl))
                have kn_440 : Hid (c_418 41 6 = c2 41 6) := (hF_420 41 6 (fun h => absurd h.2 (ni rfl))).trans (hid kn_439)
                have h_441 : (up c_418 41 4 ((nx F e1 a) + 1)) 41 6 = c2 41 6 := ((up_n (by decide)).trans (hid kn_440))
                have hA_442 : Ce nw (c_64 (A + 9)) ((up c_418 41 4 ((nx F e1 a) + 1)) 50) ((up c_418 41 4 ((nx F e1 a) + 1)) 51) := ce_fr hrl0 (fun j => hF_66 (A + 9) j (fun h => absurd h.1 (np hA rfl rfl))) (fun j => (up_c (nn rfl)).trans ((hF_420 50 j (fun h => absurd h.1 (nn rfl))).trans (hF_415 50 j (fun h => absurd h.1 (nn rfl))))) (fun j => (up_c (nn rfl)).trans ((hF_420 51 j (fun h => absurd h.1 (nn rfl))).trans (hF_415 51 j (fun h => absurd h.1 (nn rfl)))))
                refine v_cv c_174_55 km_8_239 rfl rfl (Nat.le_of_ble_eq_true rfl) ⟨⟨rfl, rfl⟩, Nat.le_of_ble_eq_true rfl, rfl⟩ (Nat.le_of_ble_eq_true rfl) (Nat.le_of_ble_eq_true rfl) (L_12 (m := c_64) (a2 := a2) (e1 := e1) (f0 := 0) (g0 := (-1)) (p0 := (nx F e1 a) + 1) (n0 := nw) (o0 := a2) (F := F) (H := H) hI_424 hI_65 hI_81 hA (show 0 ≤ a2 ∧ a2 ≤ 6 from ha2) (by first | assumption | omega) (by first | assumption | omega) (by first | assumption | omega) (by first | exact q_6d1e0f202 h_61 hq3 hx0 | omega) (by first | exact q_9eaf88dc1 h_67 | omega) (by first | exact q_7024b37ce hq5 | omega) ((hid kn_425)) (((up_n (by decide)).trans (hid kn_426))) ((hid kn_79)) ((hid kn_427)) ((hz_68)) ((hid kn_428)) (((up_n (by decide)).trans (hid kn_430))) (((up_n (by decide)).trans (hid kn_432))) (fun j => ((hF_66 2 j (fun h => absurd h.1 (nn rfl))).trans (hFm 2 j (qn_0eac3bbbd hA))).trans (hF j)) (fun j => ((up_c (nn rfl)).trans ((hF_420 43 j (fun h => absurd h.1 (nn rfl))).trans ((hF_415 43 j (fun h => absurd h.1 (nn rfl))).trans (hFc 43 j qn_9b8df3fcd)))).trans (hH j)) hU (rt_i1 ⟨by first | assumption | omega, by first | assumption | omega, by first | assumption | omega, by first | assumption | omega⟩) (ce_le hA_442 (by omega)) H13 hG_83 (fun c_443 hI_444 hF_445 hR_447 h_448 h_449 hA_450 => (bk_inl ?_)))
                have h_451 := ir_41_29 hI_444
                have h_452 := ir_41_7 hI_444
                refine q_aload_n c_174_58 rfl (q_iload_n c_174_59 rfl (q_iconst c_174_60 (v_cv c_174_61 km_8_242 rfl rfl (Nat.le_of_ble_eq_true rfl) ⟨⟨rfl, rfl⟩, Nat.le_of_ble_eq_true rfl, rfl⟩ (Nat.le_of_ble_eq_true rfl) (Nat.le_of_ble_eq_true rfl) (q_aload_n c_170_0 rfl (v_cv c_170_1 km_8_131 rfl rfl (Nat.le_of_ble_eq_true rfl) ⟨⟨rfl, rfl⟩, Nat.le_of_ble_eq_true rfl, rfl⟩ (Nat.le_of_ble_eq_true rfl) (Nat.le_of_ble_eq_true rfl) (q_aload_n c_152_0 rfl ?_))))))
                have h_453 := ir_41_5 hI_444
                have h_454 := ir_41_4 hI_444
                have h_455 := ir_41_6 hI_444
                have h_456 := rt_bad hR_447 (by first | exact q_106d90f3b h_269 h_270 | omega)
                have hrb_hR_447 := rt_bad hR_447 (by first | exact q_f7b7d720f h_456 | omega)
                refine v_gi (z := 5) (v := c_80 1 5) c_152_1 kf_8_102 rfl (Nat.le_of_ble_eq_true rfl) rfl rfl hrb_hR_447.2.1 (q_iconst c_152_4 (v_ic_ne_t (t := 12) c_152_5 rfl ⟨by first | exact q_0f78863d3 h_456 | omega, ⟨(Int.le_trans (by decide) h_403.1), (Int.le_trans h_403.2 (by decide))⟩, by decide, by decide⟩ (q_iconst c_152_12 (v_zret c_152_13 rfl (by decide) (bk_inl (v_if_ne_f (t := 8) c_170_4 rfl (by decide) (q_vret rfl rfl ?_)))))))
                refine bk_inl (q_goto (t := 4) c_174_64 rfl (q_aload_n c_174_4 rfl (v_cv c_174_5 km_8_131 rfl rfl (Nat.le_of_ble_eq_true rfl) ⟨⟨rfl, rfl⟩, Nat.le_of_ble_eq_true rfl, rfl⟩ (Nat.le_of_ble_eq_true rfl) (Nat.le_of_ble_eq_true rfl) (q_aload_n c_152_0 rfl (v_gi (z := 5) (v := c_80 1 5) c_152_1 kf_8_102 rfl (Nat.le_of_ble_eq_true rfl) rfl rfl hrb_hR_447.2.1 (q_iconst c_152_4 (v_ic_ne_t (t := 12) c_152_5 rfl ⟨by first | exact q_0f78863d3 h_456 | omega, ⟨(Int.le_trans (by decide) h_403.1), (Int.le_trans h_403.2 (by decide))⟩, by decide, by decide⟩ ?_)))))))
                refine q_iconst c_152_12 (v_zret c_152_13 rfl (by decide) (bk_inl (v_if_eq_t (t := 67) c_174_8 rfl (by decide) (q_vret rfl rfl ?_))))
                have h_457 : c_443 41 5 = c_80 1 5 := hrb_hR_447.2.1
                have h_458 : c_443 41 6 = c_80 1 4 := hrb_hR_447.2.2.2
                exact K c_443  hI_444 (fun a j hm => (hF_445 a j hm).trans ((up_b (Decidable.or_iff_not_imp_left.mpr (fun h1 h2 => hm (Or.inl ⟨Decidable.not_not.mp h1, h2⟩)))).trans ((hF_420 a j (fun h => hm (Or.inl h))).trans ((hF_415 a j (fun h => hm (Or.inl h))).trans (hFc a j hm))))) (rt_i2 ⟨⟨by first | exact q_c4ab36c8d h_399 h_456 | omega, by first | exact q_c99d6ea93 h_398 | omega⟩, by first | exact q_88dc5fb99 h_405 | omega, by first | exact q_cb71117a2 h_405 h_456 | omega, by first | exact q_88dc5fb99 h_399 | omega⟩) (Or.inr (Or.inl (by first | exact q_374cd1df9 h_399 h_456 | omega))) (by first | exact q_cea541e22 h_449 | omega) (fun hz => absurd hz (by first | exact q_293b4c771 h_399 h_456 | omega))
      · as_aux_lemma =>
          skip
          refine bk_inl (q_istore c_13_28 (Nat.le_of_ble_eq_true rfl) (q_iload c_13_30 rfl (q_iconst c_13_32 (v_ic_ne_t (t := 37) c_13_33 rfl (by decide) (q_aload_n c_13_37 rfl (q_aload_n c_13_38 rfl (q_iload_n c_13_39 rfl ?_)))))))
          have kn_459 : Hid (c_69 1 4 = 0) := (hF_71 1 4 (fun h => absurd h.2 (ni rfl))).trans (hc_0)
          refine v_cv c_13_40 km_0_50 rfl (ck_p7 hA) (a68 hA rfl) ⟨⟨rfl, rfl⟩, by decide, rfl⟩ (Nat.le_of_ble_eq_true rfl) (Nat.le_of_ble_eq_true rfl) (fn_of (r_12 (a2 := a2) hI_70 hA (show 0 ≤ a2 ∧ a2 ≤ 6 from ha2) (fun c_460 hI_461 hF_462 => ?_)))
          intro hG_463
          refine bk_inl (q_aload_n c_13_43 rfl (v_sip c_13_44 (by decide) (q_iload c_13_47 rfl (v_iadd (v := 2001) c_13_49 (by decide) (v_cv c_13_50 km_0_59 rfl (ck_p7 hA) (a68 hA rfl) ⟨⟨rfl, rfl⟩, by decide, rfl⟩ (Nat.le_of_ble_eq_true rfl) (Nat.le_of_ble_eq_true rfl) (q_aload_n c_5_0 rfl ?_))))))
          have h_464 := ir_p7_5 hI_461 hA
          refine v_gi (z := 5) (v := c_460 (A + 7) 5) c_5_1 kf_0_28 (ck_p7 hA) (a68 hA rfl) rfl rfl rfl (q_aload_n c_5_4 rfl (v_gr (t := (A + 9)) c_5_5 kf_0_15 (ck_p7 hA) (a68 hA rfl) rfl (v_al c_5_8 (ck_p9 hA) (a68 hA rfl) (by decide) ?_)))
          by_cases h_465 : c_460 (A + 7) 5 ≥ 150
          · refine v_ic_ge_t (t := 32) c_5_9 rfl ⟨by decide, h_465, (Int.le_trans h_464.2 (by decide))⟩ (q_vret rfl rfl (bk_inl (v_iinc (v := v + 1) c_13_53 rfl (Nat.le_of_ble_eq_true rfl) rfl (q_goto (t := 8) c_13_56 rfl ?_))))
            have h_466 := ir_1_4 hI_461
            by_cases h_467 : c_460 1 4 = 0
            · skip
              refine Wp_ls [(0, .ref (A + 7)), (1, .ref 1), (2, vi a2), (3, vi (v + 1))] (lsub_cons rfl (lsub_cons rfl (lsub_cons rfl (lsub_cons rfl lsub_nil)))) (gh_stop ((s_13_l (sc := sc) (d := dh + 22) (c := c_460) (a2 := a2) (Z := fun _ => True) hI_461 hA ha2 (fun c9 Z9 h hI9 K9 => r_13 (d := dh + 1) hI9 hA ⟨by omega, h⟩ K9) (fun _ _ _ => trivial) 304) c_460 (v + 1) hI_461 (fun a j hm => rfl) ⟨by omega, by omega⟩ (by omega)) (fun hG_468 => (q_aload_n c_174_4 rfl (v_cv c_174_5 km_8_131 rfl rfl (Nat.le_of_ble_eq_true rfl) ⟨⟨rfl, rfl⟩, Nat.le_of_ble_eq_true rfl, rfl⟩ (Nat.le_of_ble_eq_true rfl) (Nat.le_of_ble_eq_true rfl) (q_aload_n c_152_0 rfl (v_gi (z := 5) (v := (-1)) c_152_1 kf_8_102 rfl (Nat.le_of_ble_eq_true rfl) rfl rfl (hc_1) (q_iconst c_152_4 (v_ic_ne_f (t := 12) c_152_5 rfl (by decide) ?_))))))))
              refine q_iconst c_152_8 (q_goto (t := 13) c_152_9 rfl (v_zret c_152_13 rfl (by decide) (bk_inl (v_if_eq_f (t := 67) c_174_8 rfl (by decide) (q_aload_n c_174_11 rfl ?_)))))
              have kn_469 : Hid (c2 41 3 = e1) := (hFc 41 3 qn_d31ba9b5e).trans (hr_e1)
              have h_470 : -2147483648 ≤ (H (nx F e1 a)) ∧ (H (nx F e1 a)) ≤ 2147483647 := by rw [← hH (nx F e1 a)]; exact ir_43 hI (nx F e1 a)
              have h_471 := hU (nx F e1 a) ((rg_be h_61 (ha.1) ((rg_eq hg_e1 h_1).2)).1) (by first | exact q_1c905e1ef h_72 hq5 | omega)
              have h_472 := hb_or (b := H) (e := e1) (r := (nx F e1 a))
              have h_473 := hb_bd (b := H) (e := e1) (r := (nx F e1 a)) (lo := -2147483648) (hi := 2147483647) h_470 (by decide)
              refine v_cv c_174_12 km_8_114 rfl rfl (Nat.le_of_ble_eq_true rfl) ⟨⟨rfl, rfl⟩, Nat.le_of_ble_eq_true rfl, rfl⟩ (Nat.le_of_ble_eq_true rfl) (Nat.le_of_ble_eq_true rfl) (f_154 (e1 := e1) (a9 := a) (B := H) (r8 := (nx F e1 a)) (r := (hb H e1 (nx F e1 a))) hI2 ((hid kn_469)) ((hr_a)) (fun j => (hFc 43 j qn_9b8df3fcd).trans (hH j)) ((nx_tr hU (ha.1) ((rg_eq hg_e1 h_1).2)).trans (rfl)) rfl (fun c_474 hI_475 hF_476 h_477 => (bk_inl (v_bip c_174_15 (by decide) (v_ic_eq_f (t := 29) c_174_17 rfl ⟨by first | (clear ha2 hq0 hq1 hq2 hq3 hq4 hq5 hv ha hnw h_1 hg_e1 h_2 hr_e1 h_3 hg_f0 h_4 hg_g0 h_5 hg_p0 h_6 hg_n0 h_7 hr_n0 h_8 hr_o0 h_9 hg_a h_10 hr_a h_11 hg_nw h_12 hr_nw h_13 hc_0 h_14 hc_1 h_15 hc_2 h_16 hc_3 hx0 hx1 hx2 hx3 h_17 h_60 h_61 h_62 h_464 h_465 h_466 h_467 h_470 h_473 h_63; omega) | omega, ⟨h_473.1, h_473.2⟩, by decide, by decide⟩ (q_aload_n c_174_20 rfl ?_))))))
              have kn_478 : Hid (c_474 41 3 = e1) := (hF_476 41 3 (fun h => absurd h.2 (ni rfl))).trans (hid kn_469)
              refine v_cv c_174_21 km_8_114 rfl rfl (Nat.le_of_ble_eq_true rfl) ⟨⟨rfl, rfl⟩, Nat.le_of_ble_eq_true rfl, rfl⟩ (Nat.le_of_ble_eq_true rfl) (Nat.le_of_ble_eq_true rfl) (f_154 (e1 := e1) (a9 := (nx F e1 a)) (B := H) (r8 := (nx F e1 a)) (r := (hb H e1 (nx F e1 a))) hI_475 ((hid kn_478)) ((h_477)) (fun j => ((hF_476 43 j (fun h => absurd h.1 (nn rfl))).trans (hFc 43 j qn_9b8df3fcd)).trans (hH j)) ((nx_tr hU ((rg_be h_61 (ha.1) ((rg_eq hg_e1 h_1).2)).1) ((rg_eq hg_e1 h_1).2)).trans ((nx_z (Or.inr (by first | exact q_648909069 h_72 | omega))))) rfl (fun c_479 hI_480 hF_481 h_482 => (bk_inl (v_bip c_174_24 (by decide) (v_ic_ne_f (t := 67) c_174_26 rfl (by first | (clear ha2 hq0 hq1 hq2 hq3 hq4 hq5 hv ha hnw h_1 hg_e1 h_2 hr_e1 h_3 hg_f0 h_4 hg_g0 h_5 hg_p0 h_6 hg_n0 h_7 hr_n0 h_8 hr_o0 h_9 hg_a h_10 hr_a h_11 hg_nw h_12 hr_nw h_13 hc_0 h_14 hc_1 h_15 hc_2 h_16 hc_3 hx0 hx1 hx2 hx3 h_17 h_60 h_61 h_62 h_464 h_465 h_466 h_467 h_470 h_473 h_63; omega) | omega) (q_aload_n c_174_29 rfl ?_))))))
              have kn_483 : Hid (c_479 41 3 = e1) := (hF_481 41 3 (fun h => absurd h.2 (ni rfl))).trans (hid kn_478)
              refine v_cv c_174_30 km_8_114 rfl rfl (Nat.le_of_ble_eq_true rfl) ⟨⟨rfl, rfl⟩, Nat.le_of_ble_eq_true rfl, rfl⟩ (Nat.le_of_ble_eq_true rfl) (Nat.le_of_ble_eq_true rfl) (f_154 (e1 := e1) (a9 := (nx F e1 a)) (B := H) (r8 := (nx F e1 a)) (r := (hb H e1 (nx F e1 a))) hI_480 ((hid kn_483)) ((h_482)) (fun j => ((hF_481 43 j (fun h => absurd h.1 (nn rfl))).trans ((hF_476 43 j (fun h => absurd h.1 (nn rfl))).trans (hFc 43 j qn_9b8df3fcd))).trans (hH j)) ((nx_tr hU ((rg_be h_61 (ha.1) ((rg_eq hg_e1 h_1).2)).1) ((rg_eq hg_e1 h_1).2)).trans ((nx_z (Or.inr (by first | exact q_648909069 h_72 | omega))))) rfl (fun c_484 hI_485 hF_486 h_487 => (bk_inl (v_bip c_174_33 (by decide) (v_ic_ne_t (t := 42) c_174_35 rfl ⟨by first | (clear ha2 hq0 hq1 hq2 hq3 hq4 hq5 hv ha hnw h_1 hg_e1 h_2 hr_e1 h_3 hg_f0 h_4 hg_g0 h_5 hg_p0 h_6 hg_n0 h_7 hr_n0 h_8 hr_o0 h_9 hg_a h_10 hr_a h_11 hg_nw h_12 hr_nw h_13 hc_0 h_14 hc_1 h_15 hc_2 h_16 hc_3 hx0 hx1 hx2 hx3 h_17 h_60 h_61 h_62 h_464 h_465 h_466 h_467 h_470 h_473 h_63; omega) | omega, ⟨h_473.1, h_473.2⟩, by decide, by decide⟩ (q_iconst c_174_42 (q_istore_n c_174_43 (Nat.le_of_ble_eq_true rfl) (q_aload_n c_174_44 rfl (q_dup c_174_45 rfl ?_)))))))))
              refine v_gi (z := 4) (v := (nx F e1 a)) c_174_46 kf_8_108 rfl (Nat.le_of_ble_eq_true rfl) rfl rfl (h_487) (q_iconst c_174_49 (v_iadd (v := (nx F e1 a) + 1) c_174_50 rfl (v_pi (z := 4) c_174_51 kf_8_108 rfl (Nat.le_of_ble_eq_true rfl) rfl rfl rfl (by decide) (q_aload_n c_174_54 rfl ?_))))
              have kn_488 : Hid (c_474 41 5 = (-1)) := (hF_476 41 5 (fun h => absurd h.2 (ni rfl))).trans (hc_1)
              have kn_489 : Hid (c_479 41 5 = (-1)) := (hF_481 41 5 (fun h => absurd h.2 (ni rfl))).trans (hid kn_488)
              have kn_490 : Hid (c_484 41 5 = (-1)) := (hF_486 41 5 (fun h => absurd h.2 (ni rfl))).trans (hid kn_489)
              have hI_491 := iw_41_4 (v := (nx F e1 a) + 1) hI_485 ⟨by first | exact rgp_l (rg_be h_61 (ha.1) ((rg_eq hg_e1 h_1).2)).1 (by decide) | omega, by first | exact rgp_h (rg_be h_61 (ha.1) ((rg_eq hg_e1 h_1).2)).2 (by decide) | omega⟩
              have kn_492 : Hid (c_69 1 1 = e1) := (hF_71 1 1 (fun h => absurd h.2 (ni rfl))).trans (hid kn_59)
              have kn_493 : Hid (c_484 41 3 = e1) := (hF_486 41 3 (fun h => absurd h.2 (ni rfl))).trans (hid kn_483)
              have kn_494 : Hid (c_69 1 5 = (-1)) := (hF_71 1 5 (fun h => absurd h.2 (ni rfl))).trans (hc_2)
              have kn_495 : Hid (c_69 (A + 7) 5 = nw) := (hF_71 (A + 7) 5 (fun h => absurd h.1 (np hA rfl rfl))).trans (hg_nw)
              have kn_496 : Hid (c_474 41 29 = nw) := (hF_476 41 29 (fun h => absurd h.2 (ni rfl))).trans (hr_nw)
              have kn_497 : Hid (c_479 41 29 = nw) := (hF_481 41 29 (fun h => absurd h.2 (ni rfl))).trans (hid kn_496)
              have kn_498 : Hid (c_484 41 29 = nw) := (hF_486 41 29 (fun h => absurd h.2 (ni rfl))).trans (hid kn_497)
              have kn_499 : Hid (c_474 41 7 = a2) := (hF_476 41 7 (fun h => absurd h.2 (ni rfl))).trans (hc_3)
              have kn_500 : Hid (c_479 41 7 = a2) := (hF_481 41 7 (fun h => absurd h.2 (ni rfl))).trans (hid kn_499)
              have kn_501 : Hid (c_484 41 7 = a2) := (hF_486 41 7 (fun h => absurd h.2 (ni rfl))).trans (hid kn_500)
              have h_502 : c_69 1 4 = 0 := (hid kn_459)
              have h_503 : c_69 1 2 = (nx F e1 a) + 1 := (hz_73)
              have h_504 : c_69 1 5 = (-1) := (hid kn_494)
              have h_505 : (up c_484 41 4 ((nx F e1 a) + 1)) 41 5 = (-1) := ((up_n (by decide)).trans (hid kn_490))
              have h_506 : (up c_484 41 4 ((nx F e1 a) + 1)) 41 4 = (nx F e1 a) + 1 := (up_e rfl)
              have h_507 := ir_41_6 hI2
              have kn_508 : Hid (c_474 41 6 = c2 41 6) := hF_476 41 6 (fun h => absurd h.2 (ni rfl))
              have kn_509 : Hid (c_479 41 6 = c2 41 6) := (hF_481 41 6 (fun h => absurd h.2 (ni rfl))).trans (hid kn_508)
              have kn_510 : Hid (c_484 41 6 = c2 41 6) := (hF_486 41 6 (fun h => absurd h.2 (ni rfl))).trans (hid kn_509)
              have h_511 : (up c_484 41 4 ((nx F e1 a) + 1)) 41 6 = c2 41 6 := ((up_n (by decide)).trans (hid kn_510))
              have hA_512 : Ce nw (c_69 (A + 9)) ((up c_484 41 4 ((nx F e1 a) + 1)) 50) ((up c_484 41 4 ((nx F e1 a) + 1)) 51) := ce_fr hrl0 (fun j => hF_71 (A + 9) j (fun h => absurd h.1 (np hA rfl rfl))) (fun j => (up_c (nn rfl)).trans ((hF_486 50 j (fun h => absurd h.1 (nn rfl))).trans ((hF_481 50 j (fun h => absurd h.1 (nn rfl))).trans (hF_476 50 j (fun h => absurd h.1 (nn rfl)))))) (fun j => (up_c (nn rfl)).trans ((hF_486 51 j (fun h => absurd h.1 (nn rfl))).trans ((hF_481 51 j (fun h => absurd h.1 (nn rfl))).trans (hF_476 51 j (fun h => absurd h.1 (nn rfl))))))
              refine v_cv c_174_55 km_8_239 rfl rfl (Nat.le_of_ble_eq_true rfl) ⟨⟨rfl, rfl⟩, Nat.le_of_ble_eq_true rfl, rfl⟩ (Nat.le_of_ble_eq_true rfl) (Nat.le_of_ble_eq_true rfl) (L_12 (m := c_69) (a2 := a2) (e1 := e1) (f0 := 0) (g0 := (-1)) (p0 := (nx F e1 a) + 1) (n0 := nw) (o0 := a2) (F := F) (H := H) hI_491 hI_70 hI_461 hA (show 0 ≤ a2 ∧ a2 ≤ 6 from ha2) (by first | assumption | omega) (by first | assumption | omega) (by first | assumption | omega) (by first | exact q_6d1e0f202 h_61 hq3 hx0 | omega) (by first | exact q_59aea9c2a h_72 | omega) (by first | exact q_7024b37ce hq5 | omega) ((hid kn_492)) (((up_n (by decide)).trans (hid kn_493))) ((hid kn_459)) ((hid kn_494)) ((hz_73)) ((hid kn_495)) (((up_n (by decide)).trans (hid kn_498))) (((up_n (by decide)).trans (hid kn_501))) (fun j => ((hF_71 2 j (fun h => absurd h.1 (nn rfl))).trans (hFm 2 j (qn_0eac3bbbd hA))).trans (hF j)) (fun j => ((up_c (nn rfl)).trans ((hF_486 43 j (fun h => absurd h.1 (nn rfl))).trans ((hF_481 43 j (fun h => absurd h.1 (nn rfl))).trans ((hF_476 43 j (fun h => absurd h.1 (nn rfl))).trans (hFc 43 j qn_9b8df3fcd))))).trans (hH j)) hU (rt_i1 ⟨by first | assumption | omega, by first | assumption | omega, by first | assumption | omega, by first | assumption | omega⟩) (ce_le hA_512 (by omega)) H13 hG_463 (fun c_513 hI_514 hF_515 hR_517 h_518 h_519 hA_520 => (bk_inl ?_)))
              have h_521 := ir_41_29 hI_514
              have h_522 := ir_1_2 hI_461
              have h_523 := ir_41_7 hI_514
              refine q_aload_n c_174_58 rfl (q_iload_n c_174_59 rfl (q_iconst c_174_60 (v_cv c_174_61 km_8_242 rfl rfl (Nat.le_of_ble_eq_true rfl) ⟨⟨rfl, rfl⟩, Nat.le_of_ble_eq_true rfl, rfl⟩ (Nat.le_of_ble_eq_true rfl) (Nat.le_of_ble_eq_true rfl) (q_aload_n c_170_0 rfl (v_cv c_170_1 km_8_131 rfl rfl (Nat.le_of_ble_eq_true rfl) ⟨⟨rfl, rfl⟩, Nat.le_of_ble_eq_true rfl, rfl⟩ (Nat.le_of_ble_eq_true rfl) (Nat.le_of_ble_eq_true rfl) (q_aload_n c_152_0 rfl ?_))))))
              have h_524 := ir_41_5 hI_514
              have h_525 := ir_1_5 hI_461
              have h_526 := ir_41_4 hI_514
              have h_527 := ir_41_6 hI_514
              have h_528 := rt_ok hR_517 (by first | exact q_f6b658f58 h_466 h_467 | omega)
              have hro_hR_517 := rt_ok hR_517 (by first | exact q_f6b658f58 h_466 h_467 | omega)
              refine v_gi (z := 5) (v := (-1)) c_152_1 kf_8_102 rfl (Nat.le_of_ble_eq_true rfl) rfl rfl hro_hR_517.2.1 (q_iconst c_152_4 (v_ic_ne_f (t := 12) c_152_5 rfl (by decide) (q_iconst c_152_8 (q_goto (t := 13) c_152_9 rfl (v_zret c_152_13 rfl (by decide) (bk_inl (v_if_ne_t (t := 8) c_170_4 rfl (by decide) ?_)))))))
              refine q_aload_n c_170_8 rfl (v_gr (t := 50) c_170_9 kf_8_41 rfl (Nat.le_of_ble_eq_true rfl) rfl (q_aload_n c_170_12 rfl (v_gi (z := 29) (v := c_513 41 29) c_170_13 kf_8_236 rfl (Nat.le_of_ble_eq_true rfl) rfl rfl rfl (q_iload_n c_170_16 rfl (v_is c_170_17 rfl (by decide) (by decide) ⟨h_521.1, by first | exact q_a952121f7 h_466 h_467 h_518 h_61 hq3 hq5 hx0 | omega⟩ (q_aload_n c_170_18 rfl (v_gr (t := 51) c_170_19 kf_8_44 rfl (Nat.le_of_ble_eq_true rfl) rfl ?_)))))))
              refine q_aload_n c_170_22 rfl (v_gi (z := 29) (v := c_513 41 29) c_170_23 kf_8_236 rfl (Nat.le_of_ble_eq_true rfl) rfl rfl (up_c (nn rfl)) (q_iload_n c_170_26 rfl (v_is c_170_27 rfl (by decide) (by decide) ⟨h_521.1, by first | exact q_a952121f7 h_466 h_467 h_518 h_61 hq3 hq5 hx0 | omega⟩ (q_aload_n c_170_28 rfl (q_dup c_170_29 rfl (v_gi (z := 29) (v := c_513 41 29) c_170_30 kf_8_236 rfl (Nat.le_of_ble_eq_true rfl) rfl rfl ((up_c (nn rfl)).trans (up_c (nn rfl))) (q_iconst c_170_33 ?_)))))))
              refine v_iadd (v := c_513 41 29 + 1) c_170_34 rfl (v_pi (z := 29) c_170_35 kf_8_236 rfl (Nat.le_of_ble_eq_true rfl) rfl rfl rfl (by decide) (q_vret rfl rfl (bk_inl (q_goto (t := 4) c_174_64 rfl ?_))))
              have hI_529 := iw_50 (j := c_513 41 29) (v := 3) hI_514 ⟨by decide, by decide⟩
              have hI_530 := iw_51 (j := c_513 41 29) (v := 0) hI_529 ⟨by decide, by decide⟩
              have hI_531 := iw_41_29 (v := c_513 41 29 + 1) hI_530 ⟨by first | exact rgp_l h_521.1 (by decide) | omega, by first | exact q_c6a1907c9 h_466 h_467 h_518 h_61 hq3 hq5 hx0 | omega⟩
              refine Wp_ls [(0, .ref 41)] (lsub_cons rfl lsub_nil) ?_
              have hA_532 : Ce (c_460 (A + 7) 5) (c_460 (A + 9)) ((up (up (up c_513 50 (c_513 41 29) 3) 51 (c_513 41 29) 0) 41 29 (c_513 41 29 + 1)) 50) ((up (up (up c_513 50 (c_513 41 29) 3) 51 (c_513 41 29) 0) 41 29 (c_513 41 29 + 1)) 51) := ce_z (by omega)
              exact ih (up (up (up c_513 50 (c_513 41 29) 3) 51 (c_513 41 29) 0) 41 29 (c_513 41 29 + 1)) c_460 (v + 1) (c_460 1 2) (c_460 (A + 7) 5) hI_531 (fun a j hm => (up_b (Decidable.or_iff_not_imp_left.mpr (fun h1 h2 => hm (Or.inr (Or.inr (Or.inr (Or.inr (Or.inl ⟨Decidable.not_not.mp h1, h2⟩)))))))).trans ((up_b (Decidable.or_iff_not_imp_left.mpr (fun h1 h2 => hm (Or.inr (Or.inr (Or.inr (Or.inr (Or.inr (Or.inr (Decidable.not_not.mp h1)))))))))).trans ((up_b (Decidable.or_iff_not_imp_left.mpr (fun h1 h2 => hm (Or.inr (Or.inr (Or.inr (Or.inr (Or.inr (Or.inl (Decidable.not_not.mp h1)))))))))).trans ((hF_515 a j hm).trans ((up_b (Decidable.or_iff_not_imp_left.mpr (fun h1 h2 => hm (Or.inl ⟨Decidable.not_not.mp h1, h2⟩)))).trans ((hF_486 a j (fun h => hm (Or.inl h))).trans ((hF_481 a j (fun h => hm (Or.inl h))).trans ((hF_476 a j (fun h => hm (Or.inl h))).trans (hFc a j hm))))))))) hI_461 (fun a j hm => (hF_462 a j hm).trans ((hF_71 a j (fun h => hm (Or.inl h))).trans (hFm a j hm))) ⟨by first | exact rgp_l hv.1 (by decide) | omega, by first | exact q_e92c430a0 h_17 | omega⟩ h_522 h_464 (rfl) (((((up_n (by decide)).trans ((up_c (nn rfl)).trans (up_c (nn rfl))))).trans (hro_hR_517.2.2.1))) (rfl) ((show _ = c_513 41 29 + 1 from (up_e rfl)).trans (by first | assumption | exact Int.le_antisymm (by first | exact q_67c14e178 h_465 h_466 h_467 h_518 h_61 hq3 hq5 hx0 | omega) (by first | exact q_137628faa h_466 h_467 h_518 | omega))) ((show _ = c_460 1 4 from rfl).trans (by first | assumption | exact Int.le_antisymm (by first | exact q_d1e538aa4 h_467 | omega) (by first | exact q_eb3a7ad7a h_466 | omega))) (((((up_n (by decide)).trans ((up_c (nn rfl)).trans (up_c (nn rfl))))).trans (hro_hR_517.2.1))) ((show _ = c_460 1 5 from rfl).trans (by first | assumption | exact Int.le_antisymm (by first | exact q_10f95419d h_528 | omega) (by first | exact q_3d8b3e7e9 h_525 | omega))) ((show _ = c_513 41 7 from ((up_n (by decide)).trans ((up_c (nn rfl)).trans (up_c (nn rfl))))).trans (by first | assumption | exact Int.le_antisymm (by first | exact q_f85ce3c92 h_519 | omega) (by first | exact q_f91efb75c h_519 | omega))) (by first | exact q_513384d56 h_466 h_467 h_518 h_61 hx0 | omega) (by first | exact q_4e4884769 h_466 h_467 h_518 h_61 hx1 | omega) (by first | exact q_eacdcefed h_466 h_467 h_518 | omega) (by first | exact q_dc5dcf640 h_17 h_465 h_466 h_467 h_518 h_61 hq3 hx0 | omega) (ce_le hA_532 (by omega)) hG_468 (by omega)
            · skip
              refine q_iload_n c_13_8 rfl (v_sip c_13_9 (by decide) ?_)
              by_cases h_533 : v + 1 ≥ 150
              · refine v_ic_ge_t (t := 59) c_13_12 rfl ⟨by decide, h_533, by first | exact rgp_h hv.2 (by decide) | omega⟩ (q_vret rfl rfl ?_)
                intro hE_534
                have hW : Wd P Q P P c_460 = Wd P Q P P m9 := (Prod.mk.inj (Prod.mk.inj hE_534).2).1
                have h_535 := ir_1_4 hJ9
                have h_536 : m9 1 4 = c_460 1 4 := wd_fv (z := 4) 4 rfl hW rfl rfl rfl rfl (by decide) rfl ⟨(Int.le_trans (by decide) h_466.1), (Int.le_trans h_466.2 (by decide))⟩ ⟨(Int.le_trans (by decide) h_535.1), (Int.le_trans h_535.2 (by decide))⟩
                have h_537 := ir_1_2 hI_461
                have h_538 := ir_1_2 hJ9
                have h_539 : m9 1 2 = c_460 1 2 := wd_fv (z := 2) 2 rfl hW rfl rfl rfl rfl (by decide) rfl ⟨(Int.le_trans (by decide) h_537.1), (Int.le_trans h_537.2 (by decide))⟩ ⟨(Int.le_trans (by decide) h_538.1), (Int.le_trans h_538.2 (by decide))⟩
                have h_540 := ir_1_5 hI_461
                have h_541 := ir_1_5 hJ9
                have h_542 : m9 1 5 = c_460 1 5 := wd_fv (z := 5) 5 rfl hW rfl rfl rfl rfl (by decide) rfl ⟨(Int.le_trans (by decide) h_540.1), (Int.le_trans h_540.2 (by decide))⟩ ⟨(Int.le_trans (by decide) h_541.1), (Int.le_trans h_541.2 (by decide))⟩
                have h_543 := ir_p7_5 hJ9 hA
                have h_544 : m9 (A + 7) 5 = c_460 (A + 7) 5 := wd_fv (z := 5) 5 rfl hW (ck_p7 hA) (ck_p7 hA) rfl rfl (a68 hA rfl) rfl ⟨(Int.le_trans (by decide) h_464.1), (Int.le_trans h_464.2 (by decide))⟩ ⟨(Int.le_trans (by decide) h_543.1), (Int.le_trans h_543.2 (by decide))⟩
                refine q_aload_n c_174_4 rfl (v_cv c_174_5 km_8_131 rfl rfl (Nat.le_of_ble_eq_true rfl) ⟨⟨rfl, rfl⟩, Nat.le_of_ble_eq_true rfl, rfl⟩ (Nat.le_of_ble_eq_true rfl) (Nat.le_of_ble_eq_true rfl) (q_aload_n c_152_0 rfl (v_gi (z := 5) (v := (-1)) c_152_1 kf_8_102 rfl (Nat.le_of_ble_eq_true rfl) rfl rfl (hc_1) (q_iconst c_152_4 (v_ic_ne_f (t := 12) c_152_5 rfl (by decide) (q_iconst c_152_8 (q_goto (t := 13) c_152_9 rfl ?_)))))))
                refine v_zret c_152_13 rfl (by decide) (bk_inl (v_if_eq_f (t := 67) c_174_8 rfl (by decide) (q_aload_n c_174_11 rfl ?_)))
                have kn_545 : Hid (c2 41 3 = e1) := (hFc 41 3 qn_d31ba9b5e).trans (hr_e1)
                have h_546 : -2147483648 ≤ (H (nx F e1 a)) ∧ (H (nx F e1 a)) ≤ 2147483647 := by rw [← hH (nx F e1 a)]; exact ir_43 hI (nx F e1 a)
                have h_547 := hU (nx F e1 a) ((rg_be h_61 (ha.1) ((rg_eq hg_e1 h_1).2)).1) (by first | exact q_1c905e1ef h_72 hq5 | omega)
                have h_548 := hb_or (b := H) (e := e1) (r := (nx F e1 a))
                have h_549 := hb_bd (b := H) (e := e1) (r := (nx F e1 a)) (lo := -2147483648) (hi := 2147483647) h_546 (by decide)
                refine v_cv c_174_12 km_8_114 rfl rfl (Nat.le_of_ble_eq_true rfl) ⟨⟨rfl, rfl⟩, Nat.le_of_ble_eq_true rfl, rfl⟩ (Nat.le_of_ble_eq_true rfl) (Nat.le_of_ble_eq_true rfl) (f_154 (e1 := e1) (a9 := a) (B := H) (r8 := (nx F e1 a)) (r := (hb H e1 (nx F e1 a))) hI2 ((hid kn_545)) ((hr_a)) (fun j => (hFc 43 j qn_9b8df3fcd).trans (hH j)) ((nx_tr hU (ha.1) ((rg_eq hg_e1 h_1).2)).trans (rfl)) rfl (fun c_550 hI_551 hF_552 h_553 => (bk_inl (v_bip c_174_15 (by decide) (v_ic_eq_f (t := 29) c_174_17 rfl ⟨by first | (clear ha2 hq0 hq1 hq2 hq3 hq4 hq5 hv ha hnw h_1 hg_e1 h_2 hr_e1 h_3 hg_f0 h_4 hg_g0 h_5 hg_p0 h_6 hg_n0 h_7 hr_n0 h_8 hr_o0 h_9 hg_a h_10 hr_a h_11 hg_nw h_12 hr_nw h_13 hc_0 h_14 hc_1 h_15 hc_2 h_16 hc_3 hx0 hx1 hx2 hx3 h_17 h_60 h_61 h_62 h_464 h_465 h_466 h_533 h_535 h_536 h_537 h_538 h_539 h_540 h_541 h_542 h_543 h_544 h_546 h_549 h_63 h_467; omega) | omega, ⟨h_549.1, h_549.2⟩, by decide, by decide⟩ (q_aload_n c_174_20 rfl ?_))))))
                have kn_554 : Hid (c_550 41 3 = e1) := (hF_552 41 3 (fun h => absurd h.2 (ni rfl))).trans (hid kn_545)
                refine v_cv c_174_21 km_8_114 rfl rfl (Nat.le_of_ble_eq_true rfl) ⟨⟨rfl, rfl⟩, Nat.le_of_ble_eq_true rfl, rfl⟩ (Nat.le_of_ble_eq_true rfl) (Nat.le_of_ble_eq_true rfl) (f_154 (e1 := e1) (a9 := (nx F e1 a)) (B := H) (r8 := (nx F e1 a)) (r := (hb H e1 (nx F e1 a))) hI_551 ((hid kn_554)) ((h_553)) (fun j => ((hF_552 43 j (fun h => absurd h.1 (nn rfl))).trans (hFc 43 j qn_9b8df3fcd)).trans (hH j)) ((nx_tr hU ((rg_be h_61 (ha.1) ((rg_eq hg_e1 h_1).2)).1) ((rg_eq hg_e1 h_1).2)).trans ((nx_z (Or.inr (by first | exact q_648909069 h_72 | omega))))) rfl (fun c_555 hI_556 hF_557 h_558 => (bk_inl (v_bip c_174_24 (by decide) (v_ic_ne_f (t := 67) c_174_26 rfl (by first | (clear ha2 hq0 hq1 hq2 hq3 hq4 hq5 hv ha hnw h_1 hg_e1 h_2 hr_e1 h_3 hg_f0 h_4 hg_g0 h_5 hg_p0 h_6 hg_n0 h_7 hr_n0 h_8 hr_o0 h_9 hg_a h_10 hr_a h_11 hg_nw h_12 hr_nw h_13 hc_0 h_14 hc_1 h_15 hc_2 h_16 hc_3 hx0 hx1 hx2 hx3 h_17 h_60 h_61 h_62 h_464 h_465 h_466 h_533 h_535 h_536 h_537 h_538 h_539 h_540 h_541 h_542 h_543 h_544 h_546 h_549 h_63 h_467; omega) | omega) (q_aload_n c_174_29 rfl ?_))))))
                have kn_559 : Hid (c_555 41 3 = e1) := (hF_557 41 3 (fun h => absurd h.2 (ni rfl))).trans (hid kn_554)
                refine v_cv c_174_30 km_8_114 rfl rfl (Nat.le_of_ble_eq_true rfl) ⟨⟨rfl, rfl⟩, Nat.le_of_ble_eq_true rfl, rfl⟩ (Nat.le_of_ble_eq_true rfl) (Nat.le_of_ble_eq_true rfl) (f_154 (e1 := e1) (a9 := (nx F e1 a)) (B := H) (r8 := (nx F e1 a)) (r := (hb H e1 (nx F e1 a))) hI_556 ((hid kn_559)) ((h_558)) (fun j => ((hF_557 43 j (fun h => absurd h.1 (nn rfl))).trans ((hF_552 43 j (fun h => absurd h.1 (nn rfl))).trans (hFc 43 j qn_9b8df3fcd))).trans (hH j)) ((nx_tr hU ((rg_be h_61 (ha.1) ((rg_eq hg_e1 h_1).2)).1) ((rg_eq hg_e1 h_1).2)).trans ((nx_z (Or.inr (by first | exact q_648909069 h_72 | omega))))) rfl (fun c_560 hI_561 hF_562 h_563 => (bk_inl (v_bip c_174_33 (by decide) (v_ic_ne_t (t := 42) c_174_35 rfl ⟨by first | (clear ha2 hq0 hq1 hq2 hq3 hq4 hq5 hv ha hnw h_1 hg_e1 h_2 hr_e1 h_3 hg_f0 h_4 hg_g0 h_5 hg_p0 h_6 hg_n0 h_7 hr_n0 h_8 hr_o0 h_9 hg_a h_10 hr_a h_11 hg_nw h_12 hr_nw h_13 hc_0 h_14 hc_1 h_15 hc_2 h_16 hc_3 hx0 hx1 hx2 hx3 h_17 h_60 h_61 h_62 h_464 h_465 h_466 h_533 h_535 h_536 h_537 h_538 h_539 h_540 h_541 h_542 h_543 h_544 h_546 h_549 h_63 h_467; omega) | omega, ⟨h_549.1, h_549.2⟩, by decide, by decide⟩ (q_iconst c_174_42 (q_istore_n c_174_43 (Nat.le_of_ble_eq_true rfl) (q_aload_n c_174_44 rfl (q_dup c_174_45 rfl ?_)))))))))
                refine v_gi (z := 4) (v := (nx F e1 a)) c_174_46 kf_8_108 rfl (Nat.le_of_ble_eq_true rfl) rfl rfl (h_563) (q_iconst c_174_49 (v_iadd (v := (nx F e1 a) + 1) c_174_50 rfl (v_pi (z := 4) c_174_51 kf_8_108 rfl (Nat.le_of_ble_eq_true rfl) rfl rfl rfl (by decide) (q_aload_n c_174_54 rfl ?_))))
                have kn_564 : Hid (c_550 41 5 = (-1)) := (hF_552 41 5 (fun h => absurd h.2 (ni rfl))).trans (hc_1)
                have kn_565 : Hid (c_555 41 5 = (-1)) := (hF_557 41 5 (fun h => absurd h.2 (ni rfl))).trans (hid kn_564)
                have kn_566 : Hid (c_560 41 5 = (-1)) := (hF_562 41 5 (fun h => absurd h.2 (ni rfl))).trans (hid kn_565)
                have hI_567 := iw_41_4 (v := (nx F e1 a) + 1) hI_561 ⟨by first | exact rgp_l (rg_be h_61 (ha.1) ((rg_eq hg_e1 h_1).2)).1 (by decide) | omega, by first | exact rgp_h (rg_be h_61 (ha.1) ((rg_eq hg_e1 h_1).2)).2 (by decide) | omega⟩
                have kn_568 : Hid (c_69 1 1 = e1) := (hF_71 1 1 (fun h => absurd h.2 (ni rfl))).trans (hid kn_59)
                have kn_569 : Hid (c_560 41 3 = e1) := (hF_562 41 3 (fun h => absurd h.2 (ni rfl))).trans (hid kn_559)
                have kn_570 : Hid (c_69 1 5 = (-1)) := (hF_71 1 5 (fun h => absurd h.2 (ni rfl))).trans (hc_2)
                have kn_571 : Hid (c_69 (A + 7) 5 = nw) := (hF_71 (A + 7) 5 (fun h => absurd h.1 (np hA rfl rfl))).trans (hg_nw)
                have kn_572 : Hid (c_550 41 29 = nw) := (hF_552 41 29 (fun h => absurd h.2 (ni rfl))).trans (hr_nw)
                have kn_573 : Hid (c_555 41 29 = nw) := (hF_557 41 29 (fun h => absurd h.2 (ni rfl))).trans (hid kn_572)
                have kn_574 : Hid (c_560 41 29 = nw) := (hF_562 41 29 (fun h => absurd h.2 (ni rfl))).trans (hid kn_573)
                have kn_575 : Hid (c_550 41 7 = a2) := (hF_552 41 7 (fun h => absurd h.2 (ni rfl))).trans (hc_3)
                have kn_576 : Hid (c_555 41 7 = a2) := (hF_557 41 7 (fun h => absurd h.2 (ni rfl))).trans (hid kn_575)
                have kn_577 : Hid (c_560 41 7 = a2) := (hF_562 41 7 (fun h => absurd h.2 (ni rfl))).trans (hid kn_576)
                have h_578 : c_69 1 4 = 0 := (hid kn_459)
                have h_579 : c_69 1 2 = (nx F e1 a) + 1 := (hz_73)
                have h_580 : c_69 1 5 = (-1) := (hid kn_570)
                have h_581 : (up c_560 41 4 ((nx F e1 a) + 1)) 41 5 = (-1) := ((up_n (by decide)).trans (hid kn_566))
                have h_582 : (up c_560 41 4 ((nx F e1 a) + 1)) 41 4 = (nx F e1 a) + 1 := (up_e rfl)
                have h_583 := ir_41_6 hI2
                have kn_584 : Hid (c_550 41 6 = c2 41 6) := hF_552 41 6 (fun h => absurd h.2 (ni rfl))
                have kn_585 : Hid (c_555 41 6 = c2 41 6) := (hF_557 41 6 (fun h => absurd h.2 (ni rfl))).trans (hid kn_584)
                have kn_586 : Hid (c_560 41 6 = c2 41 6) := (hF_562 41 6 (fun h => absurd h.2 (ni rfl))).trans (hid kn_585)
                have h_587 : (up c_560 41 4 ((nx F e1 a) + 1)) 41 6 = c2 41 6 := ((up_n (by decide)).trans (hid kn_586))
                have hA_588 : Ce nw (c_69 (A + 9)) ((up c_560 41 4 ((nx F e1 a) + 1)) 50) ((up c_560 41 4 ((nx F e1 a) + 1)) 51) := ce_fr hrl0 (fun j => hF_71 (A + 9) j (fun h => absurd h.1 (np hA rfl rfl))) (fun j => (up_c (nn rfl)).trans ((hF_562 50 j (fun h => absurd h.1 (nn rfl))).trans ((hF_557 50 j (fun h => absurd h.1 (nn rfl))).trans (hF_552 50 j (fun h => absurd h.1 (nn rfl)))))) (fun j => (up_c (nn rfl)).trans ((hF_562 51 j (fun h => absurd h.1 (nn rfl))).trans ((hF_557 51 j (fun h => absurd h.1 (nn rfl))).trans (hF_552 51 j (fun h => absurd h.1 (nn rfl))))))
                refine v_cv c_174_55 km_8_239 rfl rfl (Nat.le_of_ble_eq_true rfl) ⟨⟨rfl, rfl⟩, Nat.le_of_ble_eq_true rfl, rfl⟩ (Nat.le_of_ble_eq_true rfl) (Nat.le_of_ble_eq_true rfl) (L_12 (m := c_69) (a2 := a2) (e1 := e1) (f0 := 0) (g0 := (-1)) (p0 := (nx F e1 a) + 1) (n0 := nw) (o0 := a2) (F := F) (H := H) hI_567 hI_70 hI_461 hA (show 0 ≤ a2 ∧ a2 ≤ 6 from ha2) (by first | assumption | omega) (by first | assumption | omega) (by first | assumption | omega) (by first | exact q_6d1e0f202 h_61 hq3 hx0 | omega) (by first | exact q_59aea9c2a h_72 | omega) (by first | exact q_7024b37ce hq5 | omega) ((hid kn_568)) (((up_n (by decide)).trans (hid kn_569))) ((hid kn_459)) ((hid kn_570)) ((hz_73)) ((hid kn_571)) (((up_n (by decide)).trans (hid kn_574))) (((up_n (by decide)).trans (hid kn_577))) (fun j => ((hF_71 2 j (fun h => absurd h.1 (nn rfl))).trans (hFm 2 j (qn_0eac3bbbd hA))).trans (hF j)) (fun j => ((up_c (nn rfl)).trans ((hF_562 43 j (fun h => absurd h.1 (nn rfl))).trans ((hF_557 43 j (fun h => absurd h.1 (nn rfl))).trans ((hF_552 43 j (fun h => absurd h.1 (nn rfl))).trans (hFc 43 j qn_9b8df3fcd))))).trans (hH j)) hU (rt_i1 ⟨by first | assumption | omega, by first | assumption | omega, by first | assumption | omega, by first | assumption | omega⟩) (ce_le hA_588 (by omega)) H13 hG_463 (fun c_589 hI_590 hF_591 hR_593 h_594 h_595 hA_596 => (bk_inl ?_)))
                have h_597 := ir_41_29 hI_590
                have h_598 := ir_41_7 hI_590
                refine q_aload_n c_174_58 rfl (q_iload_n c_174_59 rfl (q_iconst c_174_60 (v_cv c_174_61 km_8_242 rfl rfl (Nat.le_of_ble_eq_true rfl) ⟨⟨rfl, rfl⟩, Nat.le_of_ble_eq_true rfl, rfl⟩ (Nat.le_of_ble_eq_true rfl) (Nat.le_of_ble_eq_true rfl) (q_aload_n c_170_0 rfl (v_cv c_170_1 km_8_131 rfl rfl (Nat.le_of_ble_eq_true rfl) ⟨⟨rfl, rfl⟩, Nat.le_of_ble_eq_true rfl, rfl⟩ (Nat.le_of_ble_eq_true rfl) (Nat.le_of_ble_eq_true rfl) (q_aload_n c_152_0 rfl ?_))))))
                have h_599 := ir_41_5 hI_590
                have h_600 := ir_41_4 hI_590
                have h_601 := ir_41_6 hI_590
                have h_602 := rt_bad hR_593 (by first | exact q_106d90f3b h_466 h_467 | omega)
                have hrb_hR_593 := rt_bad hR_593 (by first | exact q_f7b7d720f h_602 | omega)
                refine v_gi (z := 5) (v := c_460 1 5) c_152_1 kf_8_102 rfl (Nat.le_of_ble_eq_true rfl) rfl rfl hrb_hR_593.2.1 (q_iconst c_152_4 (v_ic_ne_t (t := 12) c_152_5 rfl ⟨by first | exact q_0f78863d3 h_602 | omega, ⟨(Int.le_trans (by decide) h_540.1), (Int.le_trans h_540.2 (by decide))⟩, by decide, by decide⟩ (q_iconst c_152_12 (v_zret c_152_13 rfl (by decide) (bk_inl (v_if_ne_f (t := 8) c_170_4 rfl (by decide) (q_vret rfl rfl ?_)))))))
                refine bk_inl (q_goto (t := 4) c_174_64 rfl (q_aload_n c_174_4 rfl (v_cv c_174_5 km_8_131 rfl rfl (Nat.le_of_ble_eq_true rfl) ⟨⟨rfl, rfl⟩, Nat.le_of_ble_eq_true rfl, rfl⟩ (Nat.le_of_ble_eq_true rfl) (Nat.le_of_ble_eq_true rfl) (q_aload_n c_152_0 rfl (v_gi (z := 5) (v := c_460 1 5) c_152_1 kf_8_102 rfl (Nat.le_of_ble_eq_true rfl) rfl rfl hrb_hR_593.2.1 (q_iconst c_152_4 (v_ic_ne_t (t := 12) c_152_5 rfl ⟨by first | exact q_0f78863d3 h_602 | omega, ⟨(Int.le_trans (by decide) h_540.1), (Int.le_trans h_540.2 (by decide))⟩, by decide, by decide⟩ ?_)))))))
                refine q_iconst c_152_12 (v_zret c_152_13 rfl (by decide) (bk_inl (v_if_eq_t (t := 67) c_174_8 rfl (by decide) (q_vret rfl rfl ?_))))
                have h_603 : c_589 41 5 = c_460 1 5 := hrb_hR_593.2.1
                have h_604 : c_589 41 6 = c_460 1 4 := hrb_hR_593.2.2.2
                exact K c_589  hI_590 (fun a j hm => (hF_591 a j hm).trans ((up_b (Decidable.or_iff_not_imp_left.mpr (fun h1 h2 => hm (Or.inl ⟨Decidable.not_not.mp h1, h2⟩)))).trans ((hF_562 a j (fun h => hm (Or.inl h))).trans ((hF_557 a j (fun h => hm (Or.inl h))).trans ((hF_552 a j (fun h => hm (Or.inl h))).trans (hFc a j hm)))))) (rt_i2 ⟨⟨by first | exact q_c4ab36c8d h_536 h_602 | omega, by first | exact q_c99d6ea93 h_535 | omega⟩, by first | exact q_88dc5fb99 h_542 | omega, by first | exact q_cb71117a2 h_542 h_602 | omega, by first | exact q_88dc5fb99 h_536 | omega⟩) (Or.inr (Or.inl (by first | exact q_374cd1df9 h_536 h_602 | omega))) (by first | exact q_cea541e22 h_595 | omega) (fun hz => absurd hz (by first | exact q_293b4c771 h_536 h_602 | omega))
              · refine v_ic_ge_f (t := 59) c_13_12 rfl ⟨by first | exact rgp_l hv.1 (by decide) | omega, (Int.not_le.mp h_533), by decide⟩ (q_aload_n c_13_15 rfl (v_cv c_13_16 km_0_40 rfl rfl (Nat.le_of_ble_eq_true rfl) ⟨⟨rfl, rfl⟩, Nat.le_of_ble_eq_true rfl, rfl⟩ (Nat.le_of_ble_eq_true rfl) (Nat.le_of_ble_eq_true rfl) (q_aload_n c_2_0 rfl (v_gi (z := 4) (v := c_460 1 4) c_2_1 kf_5_38 rfl (Nat.le_of_ble_eq_true rfl) rfl rfl rfl (v_if_ne_t (t := 11) c_2_4 rfl ⟨by first | exact q_106d90f3b h_466 h_467 | omega, ⟨(Int.le_trans (by decide) h_466.1), (Int.le_trans h_466.2 (by decide))⟩, by decide, by decide⟩ (q_iconst c_2_11 (v_zret c_2_12 rfl (by decide) ?_)))))))
                refine bk_inl (v_if_eq_t (t := 59) c_13_19 rfl (by decide) (q_vret rfl rfl ?_))
                intro hE_605
                have hW : Wd P Q P P c_460 = Wd P Q P P m9 := (Prod.mk.inj (Prod.mk.inj hE_605).2).1
                have h_606 := ir_1_4 hJ9
                have h_607 : m9 1 4 = c_460 1 4 := wd_fv (z := 4) 4 rfl hW rfl rfl rfl rfl (by decide) rfl ⟨(Int.le_trans (by decide) h_466.1), (Int.le_trans h_466.2 (by decide))⟩ ⟨(Int.le_trans (by decide) h_606.1), (Int.le_trans h_606.2 (by decide))⟩
                have h_608 := ir_1_2 hI_461
                have h_609 := ir_1_2 hJ9
                have h_610 : m9 1 2 = c_460 1 2 := wd_fv (z := 2) 2 rfl hW rfl rfl rfl rfl (by decide) rfl ⟨(Int.le_trans (by decide) h_608.1), (Int.le_trans h_608.2 (by decide))⟩ ⟨(Int.le_trans (by decide) h_609.1), (Int.le_trans h_609.2 (by decide))⟩
                have h_611 := ir_1_5 hI_461
                have h_612 := ir_1_5 hJ9
                have h_613 : m9 1 5 = c_460 1 5 := wd_fv (z := 5) 5 rfl hW rfl rfl rfl rfl (by decide) rfl ⟨(Int.le_trans (by decide) h_611.1), (Int.le_trans h_611.2 (by decide))⟩ ⟨(Int.le_trans (by decide) h_612.1), (Int.le_trans h_612.2 (by decide))⟩
                have h_614 := ir_p7_5 hJ9 hA
                have h_615 : m9 (A + 7) 5 = c_460 (A + 7) 5 := wd_fv (z := 5) 5 rfl hW (ck_p7 hA) (ck_p7 hA) rfl rfl (a68 hA rfl) rfl ⟨(Int.le_trans (by decide) h_464.1), (Int.le_trans h_464.2 (by decide))⟩ ⟨(Int.le_trans (by decide) h_614.1), (Int.le_trans h_614.2 (by decide))⟩
                refine q_aload_n c_174_4 rfl (v_cv c_174_5 km_8_131 rfl rfl (Nat.le_of_ble_eq_true rfl) ⟨⟨rfl, rfl⟩, Nat.le_of_ble_eq_true rfl, rfl⟩ (Nat.le_of_ble_eq_true rfl) (Nat.le_of_ble_eq_true rfl) (q_aload_n c_152_0 rfl (v_gi (z := 5) (v := (-1)) c_152_1 kf_8_102 rfl (Nat.le_of_ble_eq_true rfl) rfl rfl (hc_1) (q_iconst c_152_4 (v_ic_ne_f (t := 12) c_152_5 rfl (by decide) (q_iconst c_152_8 (q_goto (t := 13) c_152_9 rfl ?_)))))))
                refine v_zret c_152_13 rfl (by decide) (bk_inl (v_if_eq_f (t := 67) c_174_8 rfl (by decide) (q_aload_n c_174_11 rfl ?_)))
                have kn_616 : Hid (c2 41 3 = e1) := (hFc 41 3 qn_d31ba9b5e).trans (hr_e1)
                have h_617 : -2147483648 ≤ (H (nx F e1 a)) ∧ (H (nx F e1 a)) ≤ 2147483647 := by rw [← hH (nx F e1 a)]; exact ir_43 hI (nx F e1 a)
                have h_618 := hU (nx F e1 a) ((rg_be h_61 (ha.1) ((rg_eq hg_e1 h_1).2)).1) (by first | exact q_1c905e1ef h_72 hq5 | omega)
                have h_619 := hb_or (b := H) (e := e1) (r := (nx F e1 a))
                have h_620 := hb_bd (b := H) (e := e1) (r := (nx F e1 a)) (lo := -2147483648) (hi := 2147483647) h_617 (by decide)
                refine v_cv c_174_12 km_8_114 rfl rfl (Nat.le_of_ble_eq_true rfl) ⟨⟨rfl, rfl⟩, Nat.le_of_ble_eq_true rfl, rfl⟩ (Nat.le_of_ble_eq_true rfl) (Nat.le_of_ble_eq_true rfl) (f_154 (e1 := e1) (a9 := a) (B := H) (r8 := (nx F e1 a)) (r := (hb H e1 (nx F e1 a))) hI2 ((hid kn_616)) ((hr_a)) (fun j => (hFc 43 j qn_9b8df3fcd).trans (hH j)) ((nx_tr hU (ha.1) ((rg_eq hg_e1 h_1).2)).trans (rfl)) rfl (fun c_621 hI_622 hF_623 h_624 => (bk_inl (v_bip c_174_15 (by decide) (v_ic_eq_f (t := 29) c_174_17 rfl ⟨by first | (clear ha2 hq0 hq1 hq2 hq3 hq4 hq5 hv ha hnw h_1 hg_e1 h_2 hr_e1 h_3 hg_f0 h_4 hg_g0 h_5 hg_p0 h_6 hg_n0 h_7 hr_n0 h_8 hr_o0 h_9 hg_a h_10 hr_a h_11 hg_nw h_12 hr_nw h_13 hc_0 h_14 hc_1 h_15 hc_2 h_16 hc_3 hx0 hx1 hx2 hx3 h_17 h_60 h_61 h_62 h_464 h_465 h_466 h_533 h_606 h_607 h_608 h_609 h_610 h_611 h_612 h_613 h_614 h_615 h_617 h_620 h_63 h_467; omega) | omega, ⟨h_620.1, h_620.2⟩, by decide, by decide⟩ (q_aload_n c_174_20 rfl ?_))))))
                have kn_625 : Hid (c_621 41 3 = e1) := (hF_623 41 3 (fun h => absurd h.2 (ni rfl))).trans (hid kn_616)
                refine v_cv c_174_21 km_8_114 rfl rfl (Nat.le_of_ble_eq_true rfl) ⟨⟨rfl, rfl⟩, Nat.le_of_ble_eq_true rfl, rfl⟩ (Nat.le_of_ble_eq_true rfl) (Nat.le_of_ble_eq_true rfl) (f_154 (e1 := e1) (a9 := (nx F e1 a)) (B := H) (r8 := (nx F e1 a)) (r := (hb H e1 (nx F e1 a))) hI_622 ((hid kn_625)) ((h_624)) (fun j => ((hF_623 43 j (fun h => absurd h.1 (nn rfl))).trans (hFc 43 j qn_9b8df3fcd)).trans (hH j)) ((nx_tr hU ((rg_be h_61 (ha.1) ((rg_eq hg_e1 h_1).2)).1) ((rg_eq hg_e1 h_1).2)).trans ((nx_z (Or.inr (by first | exact q_648909069 h_72 | omega))))) rfl (fun c_626 hI_627 hF_628 h_629 => (bk_inl (v_bip c_174_24 (by decide) (v_ic_ne_f (t := 67) c_174_26 rfl (by first | (clear ha2 hq0 hq1 hq2 hq3 hq4 hq5 hv ha hnw h_1 hg_e1 h_2 hr_e1 h_3 hg_f0 h_4 hg_g0 h_5 hg_p0 h_6 hg_n0 h_7 hr_n0 h_8 hr_o0 h_9 hg_a h_10 hr_a h_11 hg_nw h_12 hr_nw h_13 hc_0 h_14 hc_1 h_15 hc_2 h_16 hc_3 hx0 hx1 hx2 hx3 h_17 h_60 h_61 h_62 h_464 h_465 h_466 h_533 h_606 h_607 h_608 h_609 h_610 h_611 h_612 h_613 h_614 h_615 h_617 h_620 h_63 h_467; omega) | omega) (q_aload_n c_174_29 rfl ?_))))))
                have kn_630 : Hid (c_626 41 3 = e1) := (hF_628 41 3 (fun h => absurd h.2 (ni rfl))).trans (hid kn_625)
                refine v_cv c_174_30 km_8_114 rfl rfl (Nat.le_of_ble_eq_true rfl) ⟨⟨rfl, rfl⟩, Nat.le_of_ble_eq_true rfl, rfl⟩ (Nat.le_of_ble_eq_true rfl) (Nat.le_of_ble_eq_true rfl) (f_154 (e1 := e1) (a9 := (nx F e1 a)) (B := H) (r8 := (nx F e1 a)) (r := (hb H e1 (nx F e1 a))) hI_627 ((hid kn_630)) ((h_629)) (fun j => ((hF_628 43 j (fun h => absurd h.1 (nn rfl))).trans ((hF_623 43 j (fun h => absurd h.1 (nn rfl))).trans (hFc 43 j qn_9b8df3fcd))).trans (hH j)) ((nx_tr hU ((rg_be h_61 (ha.1) ((rg_eq hg_e1 h_1).2)).1) ((rg_eq hg_e1 h_1).2)).trans ((nx_z (Or.inr (by first | exact q_648909069 h_72 | omega))))) rfl (fun c_631 hI_632 hF_633 h_634 => (bk_inl (v_bip c_174_33 (by decide) (v_ic_ne_t (t := 42) c_174_35 rfl ⟨by first | (clear ha2 hq0 hq1 hq2 hq3 hq4 hq5 hv ha hnw h_1 hg_e1 h_2 hr_e1 h_3 hg_f0 h_4 hg_g0 h_5 hg_p0 h_6 hg_n0 h_7 hr_n0 h_8 hr_o0 h_9 hg_a h_10 hr_a h_11 hg_nw h_12 hr_nw h_13 hc_0 h_14 hc_1 h_15 hc_2 h_16 hc_3 hx0 hx1 hx2 hx3 h_17 h_60 h_61 h_62 h_464 h_465 h_466 h_533 h_606 h_607 h_608 h_609 h_610 h_611 h_612 h_613 h_614 h_615 h_617 h_620 h_63 h_467; omega) | omega, ⟨h_620.1, h_620.2⟩, by decide, by decide⟩ (q_iconst c_174_42 (q_istore_n c_174_43 (Nat.le_of_ble_eq_true rfl) (q_aload_n c_174_44 rfl (q_dup c_174_45 rfl ?_)))))))))
                refine v_gi (z := 4) (v := (nx F e1 a)) c_174_46 kf_8_108 rfl (Nat.le_of_ble_eq_true rfl) rfl rfl (h_634) (q_iconst c_174_49 (v_iadd (v := (nx F e1 a) + 1) c_174_50 rfl (v_pi (z := 4) c_174_51 kf_8_108 rfl (Nat.le_of_ble_eq_true rfl) rfl rfl rfl (by decide) (q_aload_n c_174_54 rfl ?_))))
                have kn_635 : Hid (c_621 41 5 = (-1)) := (hF_623 41 5 (fun h => absurd h.2 (ni rfl))).trans (hc_1)
                have kn_636 : Hid (c_626 41 5 = (-1)) := (hF_628 41 5 (fun h => absurd h.2 (ni rfl))).trans (hid kn_635)
                have kn_637 : Hid (c_631 41 5 = (-1)) := (hF_633 41 5 (fun h => absurd h.2 (ni rfl))).trans (hid kn_636)
                have hI_638 := iw_41_4 (v := (nx F e1 a) + 1) hI_632 ⟨by first | exact rgp_l (rg_be h_61 (ha.1) ((rg_eq hg_e1 h_1).2)).1 (by decide) | omega, by first | exact rgp_h (rg_be h_61 (ha.1) ((rg_eq hg_e1 h_1).2)).2 (by decide) | omega⟩
                have kn_639 : Hid (c_69 1 1 = e1) := (hF_71 1 1 (fun h => absurd h.2 (ni rfl))).trans (hid kn_59)
                have kn_640 : Hid (c_631 41 3 = e1) := (hF_633 41 3 (fun h => absurd h.2 (ni rfl))).trans (hid kn_630)
                have kn_641 : Hid (c_69 1 5 = (-1)) := (hF_71 1 5 (fun h => absurd h.2 (ni rfl))).trans (hc_2)
                have kn_642 : Hid (c_69 (A + 7) 5 = nw) := (hF_71 (A + 7) 5 (fun h => absurd h.1 (np hA rfl rfl))).trans (hg_nw)
                have kn_643 : Hid (c_621 41 29 = nw) := (hF_623 41 29 (fun h => absurd h.2 (ni rfl))).trans (hr_nw)
                have kn_644 : Hid (c_626 41 29 = nw) := (hF_628 41 29 (fun h => absurd h.2 (ni rfl))).trans (hid kn_643)
                have kn_645 : Hid (c_631 41 29 = nw) := (hF_633 41 29 (fun h => absurd h.2 (ni rfl))).trans (hid kn_644)
                have kn_646 : Hid (c_621 41 7 = a2) := (hF_623 41 7 (fun h => absurd h.2 (ni rfl))).trans (hc_3)
                have kn_647 : Hid (c_626 41 7 = a2) := (hF_628 41 7 (fun h => absurd h.2 (ni rfl))).trans (hid kn_646)
                have kn_648 : Hid (c_631 41 7 = a2) := (hF_633 41 7 (fun h => absurd h.2 (ni rfl))).trans (hid kn_647)
                have h_649 : c_69 1 4 = 0 := (hid kn_459)
                have h_650 : c_69 1 2 = (nx F e1 a) + 1 := (hz_73)
                have h_651 : c_69 1 5 = (-1) := (hid kn_641)
                have h_652 : (up c_631 41 4 ((nx F e1 a) + 1)) 41 5 = (-1) := ((up_n (by decide)).trans (hid kn_637))
                have h_653 : (up c_631 41 4 ((nx F e1 a) + 1)) 41 4 = (nx F e1 a) + 1 := (up_e rfl)
                have h_654 := ir_41_6 hI2
                have kn_655 : Hid (c_621 41 6 = c2 41 6) := hF_623 41 6 (fun h => absurd h.2 (ni rfl))
                have kn_656 : Hid (c_626 41 6 = c2 41 6) := (hF_628 41 6 (fun h => absurd h.2 (ni rfl))).trans (hid kn_655)
                have kn_657 : Hid (c_631 41 6 = c2 41 6) := (hF_633 41 6 (fun h => absurd h.2 (ni rfl))).trans (hid kn_656)
                have h_658 : (up c_631 41 4 ((nx F e1 a) + 1)) 41 6 = c2 41 6 := ((up_n (by decide)).trans (hid kn_657))
                have hA_659 : Ce nw (c_69 (A + 9)) ((up c_631 41 4 ((nx F e1 a) + 1)) 50) ((up c_631 41 4 ((nx F e1 a) + 1)) 51) := ce_fr hrl0 (fun j => hF_71 (A + 9) j (fun h => absurd h.1 (np hA rfl rfl))) (fun j => (up_c (nn rfl)).trans ((hF_633 50 j (fun h => absurd h.1 (nn rfl))).trans ((hF_628 50 j (fun h => absurd h.1 (nn rfl))).trans (hF_623 50 j (fun h => absurd h.1 (nn rfl)))))) (fun j => (up_c (nn rfl)).trans ((hF_633 51 j (fun h => absurd h.1 (nn rfl))).trans ((hF_628 51 j (fun h => absurd h.1 (nn rfl))).trans (hF_623 51 j (fun h => absurd h.1 (nn rfl))))))
                refine v_cv c_174_55 km_8_239 rfl rfl (Nat.le_of_ble_eq_true rfl) ⟨⟨rfl, rfl⟩, Nat.le_of_ble_eq_true rfl, rfl⟩ (Nat.le_of_ble_eq_true rfl) (Nat.le_of_ble_eq_true rfl) (L_12 (m := c_69) (a2 := a2) (e1 := e1) (f0 := 0) (g0 := (-1)) (p0 := (nx F e1 a) + 1) (n0 := nw) (o0 := a2) (F := F) (H := H) hI_638 hI_70 hI_461 hA (show 0 ≤ a2 ∧ a2 ≤ 6 from ha2) (by first | assumption | omega) (by first | assumption | omega) (by first | assumption | omega) (by first | exact q_6d1e0f202 h_61 hq3 hx0 | omega) (by first | exact q_59aea9c2a h_72 | omega) (by first | exact q_7024b37ce hq5 | omega) ((hid kn_639)) (((up_n (by decide)).trans (hid kn_640))) ((hid kn_459)) ((hid kn_641)) ((hz_73)) ((hid kn_642)) (((up_n (by decide)).trans (hid kn_645))) (((up_n (by decide)).trans (hid kn_648))) (fun j => ((hF_71 2 j (fun h => absurd h.1 (nn rfl))).trans (hFm 2 j (qn_0eac3bbbd hA))).trans (hF j)) (fun j => ((up_c (nn rfl)).trans ((hF_633 43 j (fun h => absurd h.1 (nn rfl))).trans ((hF_628 43 j (fun h => absurd h.1 (nn rfl))).trans ((hF_623 43 j (fun h => absurd h.1 (nn rfl))).trans (hFc 43 j qn_9b8df3fcd))))).trans (hH j)) hU (rt_i1 ⟨by first | assumption | omega, by first | assumption | omega, by first | assumption | omega, by first | assumption | omega⟩) (ce_le hA_659 (by omega)) H13 hG_463 (fun c_660 hI_661 hF_662 hR_664 h_665 h_666 hA_667 => (bk_inl ?_)))
                have h_668 := ir_41_29 hI_661
                have h_669 := ir_41_7 hI_661
                refine q_aload_n c_174_58 rfl (q_iload_n c_174_59 rfl (q_iconst c_174_60 (v_cv c_174_61 km_8_242 rfl rfl (Nat.le_of_ble_eq_true rfl) ⟨⟨rfl, rfl⟩, Nat.le_of_ble_eq_true rfl, rfl⟩ (Nat.le_of_ble_eq_true rfl) (Nat.le_of_ble_eq_true rfl) (q_aload_n c_170_0 rfl (v_cv c_170_1 km_8_131 rfl rfl (Nat.le_of_ble_eq_true rfl) ⟨⟨rfl, rfl⟩, Nat.le_of_ble_eq_true rfl, rfl⟩ (Nat.le_of_ble_eq_true rfl) (Nat.le_of_ble_eq_true rfl) (q_aload_n c_152_0 rfl ?_))))))
                have h_670 := ir_41_5 hI_661
                have h_671 := ir_41_4 hI_661
                have h_672 := ir_41_6 hI_661
                have h_673 := rt_bad hR_664 (by first | exact q_106d90f3b h_466 h_467 | omega)
                have hrb_hR_664 := rt_bad hR_664 (by first | exact q_f7b7d720f h_673 | omega)
                refine v_gi (z := 5) (v := c_460 1 5) c_152_1 kf_8_102 rfl (Nat.le_of_ble_eq_true rfl) rfl rfl hrb_hR_664.2.1 (q_iconst c_152_4 (v_ic_ne_t (t := 12) c_152_5 rfl ⟨by first | exact q_0f78863d3 h_673 | omega, ⟨(Int.le_trans (by decide) h_611.1), (Int.le_trans h_611.2 (by decide))⟩, by decide, by decide⟩ (q_iconst c_152_12 (v_zret c_152_13 rfl (by decide) (bk_inl (v_if_ne_f (t := 8) c_170_4 rfl (by decide) (q_vret rfl rfl ?_)))))))
                refine bk_inl (q_goto (t := 4) c_174_64 rfl (q_aload_n c_174_4 rfl (v_cv c_174_5 km_8_131 rfl rfl (Nat.le_of_ble_eq_true rfl) ⟨⟨rfl, rfl⟩, Nat.le_of_ble_eq_true rfl, rfl⟩ (Nat.le_of_ble_eq_true rfl) (Nat.le_of_ble_eq_true rfl) (q_aload_n c_152_0 rfl (v_gi (z := 5) (v := c_460 1 5) c_152_1 kf_8_102 rfl (Nat.le_of_ble_eq_true rfl) rfl rfl hrb_hR_664.2.1 (q_iconst c_152_4 (v_ic_ne_t (t := 12) c_152_5 rfl ⟨by first | exact q_0f78863d3 h_673 | omega, ⟨(Int.le_trans (by decide) h_611.1), (Int.le_trans h_611.2 (by decide))⟩, by decide, by decide⟩ ?_)))))))
                refine q_iconst c_152_12 (v_zret c_152_13 rfl (by decide) (bk_inl (v_if_eq_t (t := 67) c_174_8 rfl (by decide) (q_vret rfl rfl ?_))))
                have h_674 : c_660 41 5 = c_460 1 5 := hrb_hR_664.2.1
                have h_675 : c_660 41 6 = c_460 1 4 := hrb_hR_664.2.2.2
                exact K c_660  hI_661 (fun a j hm => (hF_662 a j hm).trans ((up_b (Decidable.or_iff_not_imp_left.mpr (fun h1 h2 => hm (Or.inl ⟨Decidable.not_not.mp h1, h2⟩)))).trans ((hF_633 a j (fun h => hm (Or.inl h))).trans ((hF_628 a j (fun h => hm (Or.inl h))).trans ((hF_623 a j (fun h => hm (Or.inl h))).trans (hFc a j hm)))))) (rt_i2 ⟨⟨by first | exact q_c4ab36c8d h_607 h_673 | omega, by first | exact q_c99d6ea93 h_606 | omega⟩, by first | exact q_88dc5fb99 h_613 | omega, by first | exact q_cb71117a2 h_613 h_673 | omega, by first | exact q_88dc5fb99 h_607 | omega⟩) (Or.inr (Or.inl (by first | exact q_374cd1df9 h_607 h_673 | omega))) (by first | exact q_cea541e22 h_666 | omega) (fun hz => absurd hz (by first | exact q_293b4c771 h_607 h_673 | omega))
          · refine v_ic_ge_f (t := 32) c_5_9 rfl ⟨(Int.le_trans (by decide) h_464.1), (Int.not_le.mp h_465), by decide⟩ (q_aload_n c_5_12 rfl (v_gr (t := (A + 9)) c_5_13 kf_0_15 (ck_p7 hA) (a68 hA rfl) rfl (q_aload_n c_5_16 rfl (v_gi (z := 5) (v := c_460 (A + 7) 5) c_5_17 kf_0_28 (ck_p7 hA) (a68 hA rfl) rfl rfl rfl (q_iload_n c_5_20 rfl (v_is c_5_21 (ck_p9 hA) (a68 hA rfl) (by decide) ⟨h_464.1, by first | exact q_cc605f3b6 h_465 | omega⟩ (q_aload_n c_5_22 rfl ?_)))))))
            refine q_dup c_5_23 rfl (v_gi (z := 5) (v := c_460 (A + 7) 5) c_5_24 kf_0_28 (ck_p7 hA) (a68 hA rfl) rfl rfl (up_c (pp rfl)) (q_iconst c_5_27 (v_iadd (v := c_460 (A + 7) 5 + 1) c_5_28 rfl (v_pi (z := 5) c_5_29 kf_0_28 (ck_p7 hA) (a68 hA rfl) rfl rfl rfl (by decide) (q_vret rfl rfl (bk_inl (v_iinc (v := v + 1) c_13_53 rfl (Nat.le_of_ble_eq_true rfl) rfl ?_)))))))
            refine q_goto (t := 8) c_13_56 rfl ?_
            have h_676 := ir_1_4 hI_461
            by_cases h_677 : c_460 1 4 = 0
            · skip
              have hI_678 := iw_lg (j := c_460 (A + 7) 5) (v := 2001) hI_461 (lgp (k := 9) hA (by decide)) ⟨by decide, by decide⟩ (by omega)
              have hI_679 := iw_p7_5 (v := c_460 (A + 7) 5 + 1) hI_678 hA ⟨by first | exact rgp_l h_464.1 (by decide) | omega, by first | exact q_e92c430a0 h_465 | omega⟩
              refine Wp_ls [(0, .ref (A + 7)), (1, .ref 1), (2, vi a2), (3, vi (v + 1))] (lsub_cons rfl (lsub_cons rfl (lsub_cons rfl (lsub_cons rfl lsub_nil)))) (gh_stop ((s_13_l (sc := sc) (d := dh + 22) (c := (up (up c_460 (A + 9) (c_460 (A + 7) 5) 2001) (A + 7) 5 (c_460 (A + 7) 5 + 1))) (a2 := a2) (Z := fun _ => True) hI_679 hA ha2 (fun c9 Z9 h hI9 K9 => r_13 (d := dh + 1) hI9 hA ⟨by omega, h⟩ K9) (fun _ _ _ => trivial) 304) (up (up c_460 (A + 9) (c_460 (A + 7) 5) 2001) (A + 7) 5 (c_460 (A + 7) 5 + 1)) (v + 1) hI_679 (fun a j hm => rfl) ⟨by omega, by omega⟩ (by omega)) (fun hG_680 => (q_aload_n c_174_4 rfl (v_cv c_174_5 km_8_131 rfl rfl (Nat.le_of_ble_eq_true rfl) ⟨⟨rfl, rfl⟩, Nat.le_of_ble_eq_true rfl, rfl⟩ (Nat.le_of_ble_eq_true rfl) (Nat.le_of_ble_eq_true rfl) (q_aload_n c_152_0 rfl (v_gi (z := 5) (v := (-1)) c_152_1 kf_8_102 rfl (Nat.le_of_ble_eq_true rfl) rfl rfl (hc_1) (q_iconst c_152_4 (v_ic_ne_f (t := 12) c_152_5 rfl (by decide) ?_))))))))
              refine q_iconst c_152_8 (q_goto (t := 13) c_152_9 rfl (v_zret c_152_13 rfl (by decide) (bk_inl (v_if_eq_f (t := 67) c_174_8 rfl (by decide) (q_aload_n c_174_11 rfl ?_)))))
              have kn_681 : Hid (c2 41 3 = e1) := (hFc 41 3 qn_d31ba9b5e).trans (hr_e1)
              have h_682 : -2147483648 ≤ (H (nx F e1 a)) ∧ (H (nx F e1 a)) ≤ 2147483647 := by rw [← hH (nx F e1 a)]; exact ir_43 hI (nx F e1 a)
              have h_683 := hU (nx F e1 a) ((rg_be h_61 (ha.1) ((rg_eq hg_e1 h_1).2)).1) (by first | exact q_1c905e1ef h_72 hq5 | omega)
              have h_684 := hb_or (b := H) (e := e1) (r := (nx F e1 a))
              have h_685 := hb_bd (b := H) (e := e1) (r := (nx F e1 a)) (lo := -2147483648) (hi := 2147483647) h_682 (by decide)
              refine v_cv c_174_12 km_8_114 rfl rfl (Nat.le_of_ble_eq_true rfl) ⟨⟨rfl, rfl⟩, Nat.le_of_ble_eq_true rfl, rfl⟩ (Nat.le_of_ble_eq_true rfl) (Nat.le_of_ble_eq_true rfl) (f_154 (e1 := e1) (a9 := a) (B := H) (r8 := (nx F e1 a)) (r := (hb H e1 (nx F e1 a))) hI2 ((hid kn_681)) ((hr_a)) (fun j => (hFc 43 j qn_9b8df3fcd).trans (hH j)) ((nx_tr hU (ha.1) ((rg_eq hg_e1 h_1).2)).trans (rfl)) rfl (fun c_686 hI_687 hF_688 h_689 => (bk_inl (v_bip c_174_15 (by decide) (v_ic_eq_f (t := 29) c_174_17 rfl ⟨by first | (clear ha2 hq0 hq1 hq2 hq3 hq4 hq5 hv ha hnw h_1 hg_e1 h_2 hr_e1 h_3 hg_f0 h_4 hg_g0 h_5 hg_p0 h_6 hg_n0 h_7 hr_n0 h_8 hr_o0 h_9 hg_a h_10 hr_a h_11 hg_nw h_12 hr_nw h_13 hc_0 h_14 hc_1 h_15 hc_2 h_16 hc_3 hx0 hx1 hx2 hx3 h_17 h_60 h_61 h_62 h_464 h_465 h_676 h_677 h_682 h_685 h_63; omega) | omega, ⟨h_685.1, h_685.2⟩, by decide, by decide⟩ (q_aload_n c_174_20 rfl ?_))))))
              have kn_690 : Hid (c_686 41 3 = e1) := (hF_688 41 3 (fun h => absurd h.2 (ni rfl))).trans (hid kn_681)
              refine v_cv c_174_21 km_8_114 rfl rfl (Nat.le_of_ble_eq_true rfl) ⟨⟨rfl, rfl⟩, Nat.le_of_ble_eq_true rfl, rfl⟩ (Nat.le_of_ble_eq_true rfl) (Nat.le_of_ble_eq_true rfl) (f_154 (e1 := e1) (a9 := (nx F e1 a)) (B := H) (r8 := (nx F e1 a)) (r := (hb H e1 (nx F e1 a))) hI_687 ((hid kn_690)) ((h_689)) (fun j => ((hF_688 43 j (fun h => absurd h.1 (nn rfl))).trans (hFc 43 j qn_9b8df3fcd)).trans (hH j)) ((nx_tr hU ((rg_be h_61 (ha.1) ((rg_eq hg_e1 h_1).2)).1) ((rg_eq hg_e1 h_1).2)).trans ((nx_z (Or.inr (by first | exact q_648909069 h_72 | omega))))) rfl (fun c_691 hI_692 hF_693 h_694 => (bk_inl (v_bip c_174_24 (by decide) (v_ic_ne_f (t := 67) c_174_26 rfl (by first | (clear ha2 hq0 hq1 hq2 hq3 hq4 hq5 hv ha hnw h_1 hg_e1 h_2 hr_e1 h_3 hg_f0 h_4 hg_g0 h_5 hg_p0 h_6 hg_n0 h_7 hr_n0 h_8 hr_o0 h_9 hg_a h_10 hr_a h_11 hg_nw h_12 hr_nw h_13 hc_0 h_14 hc_1 h_15 hc_2 h_16 hc_3 hx0 hx1 hx2 hx3 h_17 h_60 h_61 h_62 h_464 h_465 h_676 h_677 h_682 h_685 h_63; omega) | omega) (q_aload_n c_174_29 rfl ?_))))))
              have kn_695 : Hid (c_691 41 3 = e1) := (hF_693 41 3 (fun h => absurd h.2 (ni rfl))).trans (hid kn_690)
              refine v_cv c_174_30 km_8_114 rfl rfl (Nat.le_of_ble_eq_true rfl) ⟨⟨rfl, rfl⟩, Nat.le_of_ble_eq_true rfl, rfl⟩ (Nat.le_of_ble_eq_true rfl) (Nat.le_of_ble_eq_true rfl) (f_154 (e1 := e1) (a9 := (nx F e1 a)) (B := H) (r8 := (nx F e1 a)) (r := (hb H e1 (nx F e1 a))) hI_692 ((hid kn_695)) ((h_694)) (fun j => ((hF_693 43 j (fun h => absurd h.1 (nn rfl))).trans ((hF_688 43 j (fun h => absurd h.1 (nn rfl))).trans (hFc 43 j qn_9b8df3fcd))).trans (hH j)) ((nx_tr hU ((rg_be h_61 (ha.1) ((rg_eq hg_e1 h_1).2)).1) ((rg_eq hg_e1 h_1).2)).trans ((nx_z (Or.inr (by first | exact q_648909069 h_72 | omega))))) rfl (fun c_696 hI_697 hF_698 h_699 => (bk_inl (v_bip c_174_33 (by decide) (v_ic_ne_t (t := 42) c_174_35 rfl ⟨by first | (clear ha2 hq0 hq1 hq2 hq3 hq4 hq5 hv ha hnw h_1 hg_e1 h_2 hr_e1 h_3 hg_f0 h_4 hg_g0 h_5 hg_p0 h_6 hg_n0 h_7 hr_n0 h_8 hr_o0 h_9 hg_a h_10 hr_a h_11 hg_nw h_12 hr_nw h_13 hc_0 h_14 hc_1 h_15 hc_2 h_16 hc_3 hx0 hx1 hx2 hx3 h_17 h_60 h_61 h_62 h_464 h_465 h_676 h_677 h_682 h_685 h_63; omega) | omega, ⟨h_685.1, h_685.2⟩, by decide, by decide⟩ (q_iconst c_174_42 (q_istore_n c_174_43 (Nat.le_of_ble_eq_true rfl) (q_aload_n c_174_44 rfl (q_dup c_174_45 rfl ?_)))))))))
              refine v_gi (z := 4) (v := (nx F e1 a)) c_174_46 kf_8_108 rfl (Nat.le_of_ble_eq_true rfl) rfl rfl (h_699) (q_iconst c_174_49 (v_iadd (v := (nx F e1 a) + 1) c_174_50 rfl (v_pi (z := 4) c_174_51 kf_8_108 rfl (Nat.le_of_ble_eq_true rfl) rfl rfl rfl (by decide) (q_aload_n c_174_54 rfl ?_))))
              have kn_700 : Hid (c_686 41 5 = (-1)) := (hF_688 41 5 (fun h => absurd h.2 (ni rfl))).trans (hc_1)
              have kn_701 : Hid (c_691 41 5 = (-1)) := (hF_693 41 5 (fun h => absurd h.2 (ni rfl))).trans (hid kn_700)
              have kn_702 : Hid (c_696 41 5 = (-1)) := (hF_698 41 5 (fun h => absurd h.2 (ni rfl))).trans (hid kn_701)
              have hI_703 := iw_41_4 (v := (nx F e1 a) + 1) hI_697 ⟨by first | exact rgp_l (rg_be h_61 (ha.1) ((rg_eq hg_e1 h_1).2)).1 (by decide) | omega, by first | exact rgp_h (rg_be h_61 (ha.1) ((rg_eq hg_e1 h_1).2)).2 (by decide) | omega⟩
              have kn_704 : Hid (c_69 1 1 = e1) := (hF_71 1 1 (fun h => absurd h.2 (ni rfl))).trans (hid kn_59)
              have kn_705 : Hid (c_696 41 3 = e1) := (hF_698 41 3 (fun h => absurd h.2 (ni rfl))).trans (hid kn_695)
              have kn_706 : Hid (c_69 1 5 = (-1)) := (hF_71 1 5 (fun h => absurd h.2 (ni rfl))).trans (hc_2)
              have kn_707 : Hid (c_69 (A + 7) 5 = nw) := (hF_71 (A + 7) 5 (fun h => absurd h.1 (np hA rfl rfl))).trans (hg_nw)
              have kn_708 : Hid (c_686 41 29 = nw) := (hF_688 41 29 (fun h => absurd h.2 (ni rfl))).trans (hr_nw)
              have kn_709 : Hid (c_691 41 29 = nw) := (hF_693 41 29 (fun h => absurd h.2 (ni rfl))).trans (hid kn_708)
              have kn_710 : Hid (c_696 41 29 = nw) := (hF_698 41 29 (fun h => absurd h.2 (ni rfl))).trans (hid kn_709)
              have kn_711 : Hid (c_686 41 7 = a2) := (hF_688 41 7 (fun h => absurd h.2 (ni rfl))).trans (hc_3)
              have kn_712 : Hid (c_691 41 7 = a2) := (hF_693 41 7 (fun h => absurd h.2 (ni rfl))).trans (hid kn_711)
              have kn_713 : Hid (c_696 41 7 = a2) := (hF_698 41 7 (fun h => absurd h.2 (ni rfl))).trans (hid kn_712)
              have h_714 : c_69 1 4 = 0 := (hid kn_459)
              have h_715 : c_69 1 2 = (nx F e1 a) + 1 := (hz_73)
              have h_716 : c_69 1 5 = (-1) := (hid kn_706)
              have h_717 : (up c_696 41 4 ((nx F e1 a) + 1)) 41 5 = (-1) := ((up_n (by decide)).trans (hid kn_702))
              have h_718 : (up c_696 41 4 ((nx F e1 a) + 1)) 41 4 = (nx F e1 a) + 1 := (up_e rfl)
              have h_719 := ir_41_6 hI2
              have kn_720 : Hid (c_686 41 6 = c2 41 6) := hF_688 41 6 (fun h => absurd h.2 (ni rfl))
              have kn_721 : Hid (c_691 41 6 = c2 41 6) := (hF_693 41 6 (fun h => absurd h.2 (ni rfl))).trans (hid kn_720)
              have kn_722 : Hid (c_696 41 6 = c2 41 6) := (hF_698 41 6 (fun h => absurd h.2 (ni rfl))).trans (hid kn_721)
              have h_723 : (up c_696 41 4 ((nx F e1 a) + 1)) 41 6 = c2 41 6 := ((up_n (by decide)).trans (hid kn_722))
              have hA_724 : Ce nw (c_69 (A + 9)) ((up c_696 41 4 ((nx F e1 a) + 1)) 50) ((up c_696 41 4 ((nx F e1 a) + 1)) 51) := ce_fr hrl0 (fun j => hF_71 (A + 9) j (fun h => absurd h.1 (np hA rfl rfl))) (fun j => (up_c (nn rfl)).trans ((hF_698 50 j (fun h => absurd h.1 (nn rfl))).trans ((hF_693 50 j (fun h => absurd h.1 (nn rfl))).trans (hF_688 50 j (fun h => absurd h.1 (nn rfl)))))) (fun j => (up_c (nn rfl)).trans ((hF_698 51 j (fun h => absurd h.1 (nn rfl))).trans ((hF_693 51 j (fun h => absurd h.1 (nn rfl))).trans (hF_688 51 j (fun h => absurd h.1 (nn rfl))))))
              refine v_cv c_174_55 km_8_239 rfl rfl (Nat.le_of_ble_eq_true rfl) ⟨⟨rfl, rfl⟩, Nat.le_of_ble_eq_true rfl, rfl⟩ (Nat.le_of_ble_eq_true rfl) (Nat.le_of_ble_eq_true rfl) (L_12 (m := c_69) (a2 := a2) (e1 := e1) (f0 := 0) (g0 := (-1)) (p0 := (nx F e1 a) + 1) (n0 := nw) (o0 := a2) (F := F) (H := H) hI_703 hI_70 hI_461 hA (show 0 ≤ a2 ∧ a2 ≤ 6 from ha2) (by first | assumption | omega) (by first | assumption | omega) (by first | assumption | omega) (by first | exact q_6d1e0f202 h_61 hq3 hx0 | omega) (by first | exact q_59aea9c2a h_72 | omega) (by first | exact q_7024b37ce hq5 | omega) ((hid kn_704)) (((up_n (by decide)).trans (hid kn_705))) ((hid kn_459)) ((hid kn_706)) ((hz_73)) ((hid kn_707)) (((up_n (by decide)).trans (hid kn_710))) (((up_n (by decide)).trans (hid kn_713))) (fun j => ((hF_71 2 j (fun h => absurd h.1 (nn rfl))).trans (hFm 2 j (qn_0eac3bbbd hA))).trans (hF j)) (fun j => ((up_c (nn rfl)).trans ((hF_698 43 j (fun h => absurd h.1 (nn rfl))).trans ((hF_693 43 j (fun h => absurd h.1 (nn rfl))).trans ((hF_688 43 j (fun h => absurd h.1 (nn rfl))).trans (hFc 43 j qn_9b8df3fcd))))).trans (hH j)) hU (rt_i1 ⟨by first | assumption | omega, by first | assumption | omega, by first | assumption | omega, by first | assumption | omega⟩) (ce_le hA_724 (by omega)) H13 hG_463 (fun c_725 hI_726 hF_727 hR_729 h_730 h_731 hA_732 => (bk_inl ?_)))
              have h_733 := ir_41_29 hI_726
              have h_734 := ir_1_2 hI_461
              have h_735 := ir_41_7 hI_726
              refine q_aload_n c_174_58 rfl (q_iload_n c_174_59 rfl (q_iconst c_174_60 (v_cv c_174_61 km_8_242 rfl rfl (Nat.le_of_ble_eq_true rfl) ⟨⟨rfl, rfl⟩, Nat.le_of_ble_eq_true rfl, rfl⟩ (Nat.le_of_ble_eq_true rfl) (Nat.le_of_ble_eq_true rfl) (q_aload_n c_170_0 rfl (v_cv c_170_1 km_8_131 rfl rfl (Nat.le_of_ble_eq_true rfl) ⟨⟨rfl, rfl⟩, Nat.le_of_ble_eq_true rfl, rfl⟩ (Nat.le_of_ble_eq_true rfl) (Nat.le_of_ble_eq_true rfl) (q_aload_n c_152_0 rfl ?_))))))
              have h_736 := ir_41_5 hI_726
              have h_737 := ir_1_5 hI_461
              have h_738 := ir_41_4 hI_726
              have h_739 := ir_41_6 hI_726
              have h_740 := rt_ok hR_729 (by first | exact q_f6b658f58 h_676 h_677 | omega)
              have hro_hR_729 := rt_ok hR_729 (by first | exact q_f6b658f58 h_676 h_677 | omega)
              refine v_gi (z := 5) (v := (-1)) c_152_1 kf_8_102 rfl (Nat.le_of_ble_eq_true rfl) rfl rfl hro_hR_729.2.1 (q_iconst c_152_4 (v_ic_ne_f (t := 12) c_152_5 rfl (by decide) (q_iconst c_152_8 (q_goto (t := 13) c_152_9 rfl (v_zret c_152_13 rfl (by decide) (bk_inl (v_if_ne_t (t := 8) c_170_4 rfl (by decide) ?_)))))))
              refine q_aload_n c_170_8 rfl (v_gr (t := 50) c_170_9 kf_8_41 rfl (Nat.le_of_ble_eq_true rfl) rfl (q_aload_n c_170_12 rfl (v_gi (z := 29) (v := c_725 41 29) c_170_13 kf_8_236 rfl (Nat.le_of_ble_eq_true rfl) rfl rfl rfl (q_iload_n c_170_16 rfl (v_is c_170_17 rfl (by decide) (by decide) ⟨h_733.1, by first | exact q_5fa8d585f h_465 h_676 h_677 h_730 | omega⟩ (q_aload_n c_170_18 rfl (v_gr (t := 51) c_170_19 kf_8_44 rfl (Nat.le_of_ble_eq_true rfl) rfl ?_)))))))
              refine q_aload_n c_170_22 rfl (v_gi (z := 29) (v := c_725 41 29) c_170_23 kf_8_236 rfl (Nat.le_of_ble_eq_true rfl) rfl rfl (up_c (nn rfl)) (q_iload_n c_170_26 rfl (v_is c_170_27 rfl (by decide) (by decide) ⟨h_733.1, by first | exact q_5fa8d585f h_465 h_676 h_677 h_730 | omega⟩ (q_aload_n c_170_28 rfl (q_dup c_170_29 rfl (v_gi (z := 29) (v := c_725 41 29) c_170_30 kf_8_236 rfl (Nat.le_of_ble_eq_true rfl) rfl rfl ((up_c (nn rfl)).trans (up_c (nn rfl))) (q_iconst c_170_33 ?_)))))))
              refine v_iadd (v := c_725 41 29 + 1) c_170_34 rfl (v_pi (z := 29) c_170_35 kf_8_236 rfl (Nat.le_of_ble_eq_true rfl) rfl rfl rfl (by decide) (q_vret rfl rfl (bk_inl (q_goto (t := 4) c_174_64 rfl ?_))))
              have hI_741 := iw_50 (j := c_725 41 29) (v := 3) hI_726 ⟨by decide, by decide⟩
              have hI_742 := iw_51 (j := c_725 41 29) (v := 0) hI_741 ⟨by decide, by decide⟩
              have hI_743 := iw_41_29 (v := c_725 41 29 + 1) hI_742 ⟨by first | exact rgp_l h_733.1 (by decide) | omega, by first | exact q_15c35abbe h_465 h_676 h_677 h_730 | omega⟩
              refine Wp_ls [(0, .ref 41)] (lsub_cons rfl lsub_nil) ?_
              have hA_744 : Ce (c_725 41 29 + 1) ((up (up c_460 (A + 9) (c_460 (A + 7) 5) 2001) (A + 7) 5 (c_460 (A + 7) 5 + 1)) (A + 9)) ((up (up (up c_725 50 (c_725 41 29) 3) 51 (c_725 41 29) 0) 41 29 (c_725 41 29 + 1)) 50) ((up (up (up c_725 50 (c_725 41 29) 3) 51 (c_725 41 29) 0) 41 29 (c_725 41 29 + 1)) 51) := ce_w (i := c_460 (A + 7) 5) (v := 2001) (w := 3) (o := 0) (hA_732 (by omega)) (by omega) ((up_c (pp rfl)).trans (up_e rfl)) ((up_c (nn rfl)).trans ((up_c (nn rfl)).trans (up_e (by omega)))) ((up_c (nn rfl)).trans (up_e (by omega))) (fun j hj => (up_c (pp rfl)).trans (up_n hj)) (fun j hj => (up_c (nn rfl)).trans ((up_c (nn rfl)).trans (up_n (by omega)))) (fun j hj => (up_c (nn rfl)).trans ((up_n (by omega)).trans (up_c (nn rfl)))) (cr_i2 ⟨by decide, by decide, by decide, by decide⟩)
              have hA_745 : Ce (c_460 (A + 7) 5 + 1) ((up (up c_460 (A + 9) (c_460 (A + 7) 5) 2001) (A + 7) 5 (c_460 (A + 7) 5 + 1)) (A + 9)) ((up (up (up c_725 50 (c_725 41 29) 3) 51 (c_725 41 29) 0) 41 29 (c_725 41 29 + 1)) 50) ((up (up (up c_725 50 (c_725 41 29) 3) 51 (c_725 41 29) 0) 41 29 (c_725 41 29 + 1)) 51) := ce_le hA_744 (by omega)
              exact ih (up (up (up c_725 50 (c_725 41 29) 3) 51 (c_725 41 29) 0) 41 29 (c_725 41 29 + 1)) (up (up c_460 (A + 9) (c_460 (A + 7) 5) 2001) (A + 7) 5 (c_460 (A + 7) 5 + 1)) (v + 1) (c_460 1 2) (c_460 (A + 7) 5 + 1) hI_743 (fun a j hm => (up_b (Decidable.or_iff_not_imp_left.mpr (fun h1 h2 => hm (Or.inr (Or.inr (Or.inr (Or.inr (Or.inl ⟨Decidable.not_not.mp h1, h2⟩)))))))).trans ((up_b (Decidable.or_iff_not_imp_left.mpr (fun h1 h2 => hm (Or.inr (Or.inr (Or.inr (Or.inr (Or.inr (Or.inr (Decidable.not_not.mp h1)))))))))).trans ((up_b (Decidable.or_iff_not_imp_left.mpr (fun h1 h2 => hm (Or.inr (Or.inr (Or.inr (Or.inr (Or.inr (Or.inl (Decidable.not_not.mp h1)))))))))).trans ((hF_727 a j hm).trans ((up_b (Decidable.or_iff_not_imp_left.mpr (fun h1 h2 => hm (Or.inl ⟨Decidable.not_not.mp h1, h2⟩)))).trans ((hF_698 a j (fun h => hm (Or.inl h))).trans ((hF_693 a j (fun h => hm (Or.inl h))).trans ((hF_688 a j (fun h => hm (Or.inl h))).trans (hFc a j hm))))))))) hI_679 (fun a j hm => (up_b (Decidable.or_iff_not_imp_left.mpr (fun h1 h2 => hm (Or.inr (Or.inr (Or.inr (Or.inl ⟨Decidable.not_not.mp h1, h2⟩))))))).trans ((up_b (Decidable.or_iff_not_imp_left.mpr (fun h1 h2 => hm (Or.inr (Or.inr (Or.inr (Or.inr (Decidable.not_not.mp h1)))))))).trans ((hF_462 a j hm).trans ((hF_71 a j (fun h => hm (Or.inl h))).trans (hFm a j hm))))) ⟨by first | exact rgp_l hv.1 (by decide) | omega, by first | exact q_e92c430a0 h_17 | omega⟩ h_734 ⟨by first | exact rgp_l h_464.1 (by decide) | omega, by first | exact q_e92c430a0 h_465 | omega⟩ (((up_c (pn hA rfl rfl)).trans (up_c (pn hA rfl rfl)))) (((((up_n (by decide)).trans ((up_c (nn rfl)).trans (up_c (nn rfl))))).trans (hro_hR_729.2.2.1))) ((up_e rfl)) ((show _ = c_725 41 29 + 1 from (up_e rfl)).trans (by first | assumption | exact Int.le_antisymm (by first | exact q_15290d255 h_676 h_677 h_730 | omega) (by first | exact q_540c9f742 h_676 h_677 h_730 | omega))) ((show _ = c_460 1 4 from ((up_c (pn hA rfl rfl)).trans (up_c (pn hA rfl rfl)))).trans (by first | assumption | exact Int.le_antisymm (by first | exact q_d1e538aa4 h_677 | omega) (by first | exact q_eb3a7ad7a h_676 | omega))) (((((up_n (by decide)).trans ((up_c (nn rfl)).trans (up_c (nn rfl))))).trans (hro_hR_729.2.1))) ((show _ = c_460 1 5 from ((up_c (pn hA rfl rfl)).trans (up_c (pn hA rfl rfl)))).trans (by first | assumption | exact Int.le_antisymm (by first | exact q_10f95419d h_740 | omega) (by first | exact q_3d8b3e7e9 h_737 | omega))) ((show _ = c_725 41 7 from ((up_n (by decide)).trans ((up_c (nn rfl)).trans (up_c (nn rfl))))).trans (by first | assumption | exact Int.le_antisymm (by first | exact q_f85ce3c92 h_731 | omega) (by first | exact q_f91efb75c h_731 | omega))) (by first | exact q_15b4f3c2b h_61 h_676 h_677 h_730 hx0 | omega) (by first | exact q_46a8cae1f h_61 h_676 h_677 h_730 hx1 | omega) (by first | exact q_eacdcefed h_676 h_677 h_730 | omega) (by first | exact q_7ba6a389e h_61 h_676 h_677 h_730 hx3 | omega) (ce_le hA_745 (by omega)) hG_680 (by omega)
            · skip
              refine q_iload_n c_13_8 rfl (v_sip c_13_9 (by decide) ?_)
              by_cases h_746 : v + 1 ≥ 150
              · refine v_ic_ge_t (t := 59) c_13_12 rfl ⟨by decide, h_746, by first | exact rgp_h hv.2 (by decide) | omega⟩ (q_vret rfl rfl ?_)
                have hI_747 := iw_lg (j := c_460 (A + 7) 5) (v := 2001) hI_461 (lgp (k := 9) hA (by decide)) ⟨by decide, by decide⟩ (by omega)
                have hI_748 := iw_p7_5 (v := c_460 (A + 7) 5 + 1) hI_747 hA ⟨by first | exact rgp_l h_464.1 (by decide) | omega, by first | exact q_e92c430a0 h_465 | omega⟩
                intro hE_749
                have hW : Wd P Q P P (up (up c_460 (A + 9) (c_460 (A + 7) 5) 2001) (A + 7) 5 (c_460 (A + 7) 5 + 1)) = Wd P Q P P m9 := (Prod.mk.inj (Prod.mk.inj hE_749).2).1
                have h_750 := ir_1_4 hJ9
                have h_751 : m9 1 4 = c_460 1 4 := wd_fv (z := 4) 4 rfl hW rfl rfl rfl rfl (by decide) ((up_c (pn hA rfl rfl)).trans (up_c (pn hA rfl rfl))) ⟨(Int.le_trans (by decide) h_676.1), (Int.le_trans h_676.2 (by decide))⟩ ⟨(Int.le_trans (by decide) h_750.1), (Int.le_trans h_750.2 (by decide))⟩
                have h_752 := ir_1_2 hI_461
                have h_753 := ir_1_2 hJ9
                have h_754 : m9 1 2 = c_460 1 2 := wd_fv (z := 2) 2 rfl hW rfl rfl rfl rfl (by decide) ((up_c (pn hA rfl rfl)).trans (up_c (pn hA rfl rfl))) ⟨(Int.le_trans (by decide) h_752.1), (Int.le_trans h_752.2 (by decide))⟩ ⟨(Int.le_trans (by decide) h_753.1), (Int.le_trans h_753.2 (by decide))⟩
                have h_755 := ir_1_5 hI_461
                have h_756 := ir_1_5 hJ9
                have h_757 : m9 1 5 = c_460 1 5 := wd_fv (z := 5) 5 rfl hW rfl rfl rfl rfl (by decide) ((up_c (pn hA rfl rfl)).trans (up_c (pn hA rfl rfl))) ⟨(Int.le_trans (by decide) h_755.1), (Int.le_trans h_755.2 (by decide))⟩ ⟨(Int.le_trans (by decide) h_756.1), (Int.le_trans h_756.2 (by decide))⟩
                have h_758 := ir_p7_5 hJ9 hA
                have h_759 : m9 (A + 7) 5 = c_460 (A + 7) 5 + 1 := wd_fv (z := 5) 5 rfl hW (ck_p7 hA) (ck_p7 hA) rfl rfl (a68 hA rfl) (up_e rfl) ⟨by first | exact rgp_l h_464.1 (by decide) | omega, by first | exact rgp_h h_464.2 (by decide) | omega⟩ ⟨(Int.le_trans (by decide) h_758.1), (Int.le_trans h_758.2 (by decide))⟩
                refine q_aload_n c_174_4 rfl (v_cv c_174_5 km_8_131 rfl rfl (Nat.le_of_ble_eq_true rfl) ⟨⟨rfl, rfl⟩, Nat.le_of_ble_eq_true rfl, rfl⟩ (Nat.le_of_ble_eq_true rfl) (Nat.le_of_ble_eq_true rfl) (q_aload_n c_152_0 rfl (v_gi (z := 5) (v := (-1)) c_152_1 kf_8_102 rfl (Nat.le_of_ble_eq_true rfl) rfl rfl (hc_1) (q_iconst c_152_4 (v_ic_ne_f (t := 12) c_152_5 rfl (by decide) (q_iconst c_152_8 (q_goto (t := 13) c_152_9 rfl ?_)))))))
                refine v_zret c_152_13 rfl (by decide) (bk_inl (v_if_eq_f (t := 67) c_174_8 rfl (by decide) (q_aload_n c_174_11 rfl ?_)))
                have kn_760 : Hid (c2 41 3 = e1) := (hFc 41 3 qn_d31ba9b5e).trans (hr_e1)
                have h_761 : -2147483648 ≤ (H (nx F e1 a)) ∧ (H (nx F e1 a)) ≤ 2147483647 := by rw [← hH (nx F e1 a)]; exact ir_43 hI (nx F e1 a)
                have h_762 := hU (nx F e1 a) ((rg_be h_61 (ha.1) ((rg_eq hg_e1 h_1).2)).1) (by first | exact q_1c905e1ef h_72 hq5 | omega)
                have h_763 := hb_or (b := H) (e := e1) (r := (nx F e1 a))
                have h_764 := hb_bd (b := H) (e := e1) (r := (nx F e1 a)) (lo := -2147483648) (hi := 2147483647) h_761 (by decide)
                refine v_cv c_174_12 km_8_114 rfl rfl (Nat.le_of_ble_eq_true rfl) ⟨⟨rfl, rfl⟩, Nat.le_of_ble_eq_true rfl, rfl⟩ (Nat.le_of_ble_eq_true rfl) (Nat.le_of_ble_eq_true rfl) (f_154 (e1 := e1) (a9 := a) (B := H) (r8 := (nx F e1 a)) (r := (hb H e1 (nx F e1 a))) hI2 ((hid kn_760)) ((hr_a)) (fun j => (hFc 43 j qn_9b8df3fcd).trans (hH j)) ((nx_tr hU (ha.1) ((rg_eq hg_e1 h_1).2)).trans (rfl)) rfl (fun c_765 hI_766 hF_767 h_768 => (bk_inl (v_bip c_174_15 (by decide) (v_ic_eq_f (t := 29) c_174_17 rfl ⟨by first | (clear ha2 hq0 hq1 hq2 hq3 hq4 hq5 hv ha hnw h_1 hg_e1 h_2 hr_e1 h_3 hg_f0 h_4 hg_g0 h_5 hg_p0 h_6 hg_n0 h_7 hr_n0 h_8 hr_o0 h_9 hg_a h_10 hr_a h_11 hg_nw h_12 hr_nw h_13 hc_0 h_14 hc_1 h_15 hc_2 h_16 hc_3 hx0 hx1 hx2 hx3 h_17 h_60 h_61 h_62 h_464 h_465 h_676 h_746 h_750 h_751 h_752 h_753 h_754 h_755 h_756 h_757 h_758 h_759 h_761 h_764 h_63 h_677; omega) | omega, ⟨h_764.1, h_764.2⟩, by decide, by decide⟩ (q_aload_n c_174_20 rfl ?_))))))
                have kn_769 : Hid (c_765 41 3 = e1) := (hF_767 41 3 (fun h => absurd h.2 (ni rfl))).trans (hid kn_760)
                refine v_cv c_174_21 km_8_114 rfl rfl (Nat.le_of_ble_eq_true rfl) ⟨⟨rfl, rfl⟩, Nat.le_of_ble_eq_true rfl, rfl⟩ (Nat.le_of_ble_eq_true rfl) (Nat.le_of_ble_eq_true rfl) (f_154 (e1 := e1) (a9 := (nx F e1 a)) (B := H) (r8 := (nx F e1 a)) (r := (hb H e1 (nx F e1 a))) hI_766 ((hid kn_769)) ((h_768)) (fun j => ((hF_767 43 j (fun h => absurd h.1 (nn rfl))).trans (hFc 43 j qn_9b8df3fcd)).trans (hH j)) ((nx_tr hU ((rg_be h_61 (ha.1) ((rg_eq hg_e1 h_1).2)).1) ((rg_eq hg_e1 h_1).2)).trans ((nx_z (Or.inr (by first | exact q_648909069 h_72 | omega))))) rfl (fun c_770 hI_771 hF_772 h_773 => (bk_inl (v_bip c_174_24 (by decide) (v_ic_ne_f (t := 67) c_174_26 rfl (by first | (clear ha2 hq0 hq1 hq2 hq3 hq4 hq5 hv ha hnw h_1 hg_e1 h_2 hr_e1 h_3 hg_f0 h_4 hg_g0 h_5 hg_p0 h_6 hg_n0 h_7 hr_n0 h_8 hr_o0 h_9 hg_a h_10 hr_a h_11 hg_nw h_12 hr_nw h_13 hc_0 h_14 hc_1 h_15 hc_2 h_16 hc_3 hx0 hx1 hx2 hx3 h_17 h_60 h_61 h_62 h_464 h_465 h_676 h_746 h_750 h_751 h_752 h_753 h_754 h_755 h_756 h_757 h_758 h_759 h_761 h_764 h_63 h_677; omega) | omega) (q_aload_n c_174_29 rfl ?_))))))
                have kn_774 : Hid (c_770 41 3 = e1) := (hF_772 41 3 (fun h => absurd h.2 (ni rfl))).trans (hid kn_769)
                refine v_cv c_174_30 km_8_114 rfl rfl (Nat.le_of_ble_eq_true rfl) ⟨⟨rfl, rfl⟩, Nat.le_of_ble_eq_true rfl, rfl⟩ (Nat.le_of_ble_eq_true rfl) (Nat.le_of_ble_eq_true rfl) (f_154 (e1 := e1) (a9 := (nx F e1 a)) (B := H) (r8 := (nx F e1 a)) (r := (hb H e1 (nx F e1 a))) hI_771 ((hid kn_774)) ((h_773)) (fun j => ((hF_772 43 j (fun h => absurd h.1 (nn rfl))).trans ((hF_767 43 j (fun h => absurd h.1 (nn rfl))).trans (hFc 43 j qn_9b8df3fcd))).trans (hH j)) ((nx_tr hU ((rg_be h_61 (ha.1) ((rg_eq hg_e1 h_1).2)).1) ((rg_eq hg_e1 h_1).2)).trans ((nx_z (Or.inr (by first | exact q_648909069 h_72 | omega))))) rfl (fun c_775 hI_776 hF_777 h_778 => (bk_inl (v_bip c_174_33 (by decide) (v_ic_ne_t (t := 42) c_174_35 rfl ⟨by first | (clear ha2 hq0 hq1 hq2 hq3 hq4 hq5 hv ha hnw h_1 hg_e1 h_2 hr_e1 h_3 hg_f0 h_4 hg_g0 h_5 hg_p0 h_6 hg_n0 h_7 hr_n0 h_8 hr_o0 h_9 hg_a h_10 hr_a h_11 hg_nw h_12 hr_nw h_13 hc_0 h_14 hc_1 h_15 hc_2 h_16 hc_3 hx0 hx1 hx2 hx3 h_17 h_60 h_61 h_62 h_464 h_465 h_676 h_746 h_750 h_751 h_752 h_753 h_754 h_755 h_756 h_757 h_758 h_759 h_761 h_764 h_63 h_677; omega) | omega, ⟨h_764.1, h_764.2⟩, by decide, by decide⟩ (q_iconst c_174_42 (q_istore_n c_174_43 (Nat.le_of_ble_eq_true rfl) (q_aload_n c_174_44 rfl (q_dup c_174_45 rfl ?_)))))))))
                refine v_gi (z := 4) (v := (nx F e1 a)) c_174_46 kf_8_108 rfl (Nat.le_of_ble_eq_true rfl) rfl rfl (h_778) (q_iconst c_174_49 (v_iadd (v := (nx F e1 a) + 1) c_174_50 rfl (v_pi (z := 4) c_174_51 kf_8_108 rfl (Nat.le_of_ble_eq_true rfl) rfl rfl rfl (by decide) (q_aload_n c_174_54 rfl ?_))))
                have kn_779 : Hid (c_765 41 5 = (-1)) := (hF_767 41 5 (fun h => absurd h.2 (ni rfl))).trans (hc_1)
                have kn_780 : Hid (c_770 41 5 = (-1)) := (hF_772 41 5 (fun h => absurd h.2 (ni rfl))).trans (hid kn_779)
                have kn_781 : Hid (c_775 41 5 = (-1)) := (hF_777 41 5 (fun h => absurd h.2 (ni rfl))).trans (hid kn_780)
                have hI_782 := iw_41_4 (v := (nx F e1 a) + 1) hI_776 ⟨by first | exact rgp_l (rg_be h_61 (ha.1) ((rg_eq hg_e1 h_1).2)).1 (by decide) | omega, by first | exact rgp_h (rg_be h_61 (ha.1) ((rg_eq hg_e1 h_1).2)).2 (by decide) | omega⟩
                have kn_783 : Hid (c_69 1 1 = e1) := (hF_71 1 1 (fun h => absurd h.2 (ni rfl))).trans (hid kn_59)
                have kn_784 : Hid (c_775 41 3 = e1) := (hF_777 41 3 (fun h => absurd h.2 (ni rfl))).trans (hid kn_774)
                have kn_785 : Hid (c_69 1 5 = (-1)) := (hF_71 1 5 (fun h => absurd h.2 (ni rfl))).trans (hc_2)
                have kn_786 : Hid (c_69 (A + 7) 5 = nw) := (hF_71 (A + 7) 5 (fun h => absurd h.1 (np hA rfl rfl))).trans (hg_nw)
                have kn_787 : Hid (c_765 41 29 = nw) := (hF_767 41 29 (fun h => absurd h.2 (ni rfl))).trans (hr_nw)
                have kn_788 : Hid (c_770 41 29 = nw) := (hF_772 41 29 (fun h => absurd h.2 (ni rfl))).trans (hid kn_787)
                have kn_789 : Hid (c_775 41 29 = nw) := (hF_777 41 29 (fun h => absurd h.2 (ni rfl))).trans (hid kn_788)
                have kn_790 : Hid (c_765 41 7 = a2) := (hF_767 41 7 (fun h => absurd h.2 (ni rfl))).trans (hc_3)
                have kn_791 : Hid (c_770 41 7 = a2) := (hF_772 41 7 (fun h => absurd h.2 (ni rfl))).trans (hid kn_790)
                have kn_792 : Hid (c_775 41 7 = a2) := (hF_777 41 7 (fun h => absurd h.2 (ni rfl))).trans (hid kn_791)
                have h_793 : c_69 1 4 = 0 := (hid kn_459)
                have h_794 : c_69 1 2 = (nx F e1 a) + 1 := (hz_73)
                have h_795 : c_69 1 5 = (-1) := (hid kn_785)
                have h_796 : (up c_775 41 4 ((nx F e1 a) + 1)) 41 5 = (-1) := ((up_n (by decide)).trans (hid kn_781))
                have h_797 : (up c_775 41 4 ((nx F e1 a) + 1)) 41 4 = (nx F e1 a) + 1 := (up_e rfl)
                have h_798 := ir_41_6 hI2
                have kn_799 : Hid (c_765 41 6 = c2 41 6) := hF_767 41 6 (fun h => absurd h.2 (ni rfl))
                have kn_800 : Hid (c_770 41 6 = c2 41 6) := (hF_772 41 6 (fun h => absurd h.2 (ni rfl))).trans (hid kn_799)
                have kn_801 : Hid (c_775 41 6 = c2 41 6) := (hF_777 41 6 (fun h => absurd h.2 (ni rfl))).trans (hid kn_800)
                have h_802 : (up c_775 41 4 ((nx F e1 a) + 1)) 41 6 = c2 41 6 := ((up_n (by decide)).trans (hid kn_801))
                have hA_803 : Ce nw (c_69 (A + 9)) ((up c_775 41 4 ((nx F e1 a) + 1)) 50) ((up c_775 41 4 ((nx F e1 a) + 1)) 51) := ce_fr hrl0 (fun j => hF_71 (A + 9) j (fun h => absurd h.1 (np hA rfl rfl))) (fun j => (up_c (nn rfl)).trans ((hF_777 50 j (fun h => absurd h.1 (nn rfl))).trans ((hF_772 50 j (fun h => absurd h.1 (nn rfl))).trans (hF_767 50 j (fun h => absurd h.1 (nn rfl)))))) (fun j => (up_c (nn rfl)).trans ((hF_777 51 j (fun h => absurd h.1 (nn rfl))).trans ((hF_772 51 j (fun h => absurd h.1 (nn rfl))).trans (hF_767 51 j (fun h => absurd h.1 (nn rfl))))))
                refine v_cv c_174_55 km_8_239 rfl rfl (Nat.le_of_ble_eq_true rfl) ⟨⟨rfl, rfl⟩, Nat.le_of_ble_eq_true rfl, rfl⟩ (Nat.le_of_ble_eq_true rfl) (Nat.le_of_ble_eq_true rfl) (L_12 (m := c_69) (a2 := a2) (e1 := e1) (f0 := 0) (g0 := (-1)) (p0 := (nx F e1 a) + 1) (n0 := nw) (o0 := a2) (F := F) (H := H) hI_782 hI_70 hI_461 hA (show 0 ≤ a2 ∧ a2 ≤ 6 from ha2) (by first | assumption | omega) (by first | assumption | omega) (by first | assumption | omega) (by first | exact q_6d1e0f202 h_61 hq3 hx0 | omega) (by first | exact q_59aea9c2a h_72 | omega) (by first | exact q_7024b37ce hq5 | omega) ((hid kn_783)) (((up_n (by decide)).trans (hid kn_784))) ((hid kn_459)) ((hid kn_785)) ((hz_73)) ((hid kn_786)) (((up_n (by decide)).trans (hid kn_789))) (((up_n (by decide)).trans (hid kn_792))) (fun j => ((hF_71 2 j (fun h => absurd h.1 (nn rfl))).trans (hFm 2 j (qn_0eac3bbbd hA))).trans (hF j)) (fun j => ((up_c (nn rfl)).trans ((hF_777 43 j (fun h => absurd h.1 (nn rfl))).trans ((hF_772 43 j (fun h => absurd h.1 (nn rfl))).trans ((hF_767 43 j (fun h => absurd h.1 (nn rfl))).trans (hFc 43 j qn_9b8df3fcd))))).trans (hH j)) hU (rt_i1 ⟨by first | assumption | omega, by first | assumption | omega, by first | assumption | omega, by first | assumption | omega⟩) (ce_le hA_803 (by omega)) H13 hG_463 (fun c_804 hI_805 hF_806 hR_808 h_809 h_810 hA_811 => (bk_inl ?_)))
                have h_812 := ir_41_29 hI_805
                have h_813 := ir_41_7 hI_805
                refine q_aload_n c_174_58 rfl (q_iload_n c_174_59 rfl (q_iconst c_174_60 (v_cv c_174_61 km_8_242 rfl rfl (Nat.le_of_ble_eq_true rfl) ⟨⟨rfl, rfl⟩, Nat.le_of_ble_eq_true rfl, rfl⟩ (Nat.le_of_ble_eq_true rfl) (Nat.le_of_ble_eq_true rfl) (q_aload_n c_170_0 rfl (v_cv c_170_1 km_8_131 rfl rfl (Nat.le_of_ble_eq_true rfl) ⟨⟨rfl, rfl⟩, Nat.le_of_ble_eq_true rfl, rfl⟩ (Nat.le_of_ble_eq_true rfl) (Nat.le_of_ble_eq_true rfl) (q_aload_n c_152_0 rfl ?_))))))
                have h_814 := ir_41_5 hI_805
                have h_815 := ir_41_4 hI_805
                have h_816 := ir_41_6 hI_805
                have h_817 := rt_bad hR_808 (by first | exact q_106d90f3b h_676 h_677 | omega)
                have hrb_hR_808 := rt_bad hR_808 (by first | exact q_f7b7d720f h_817 | omega)
                refine v_gi (z := 5) (v := c_460 1 5) c_152_1 kf_8_102 rfl (Nat.le_of_ble_eq_true rfl) rfl rfl hrb_hR_808.2.1 (q_iconst c_152_4 (v_ic_ne_t (t := 12) c_152_5 rfl ⟨by first | exact q_0f78863d3 h_817 | omega, ⟨(Int.le_trans (by decide) h_755.1), (Int.le_trans h_755.2 (by decide))⟩, by decide, by decide⟩ (q_iconst c_152_12 (v_zret c_152_13 rfl (by decide) (bk_inl (v_if_ne_f (t := 8) c_170_4 rfl (by decide) (q_vret rfl rfl ?_)))))))
                refine bk_inl (q_goto (t := 4) c_174_64 rfl (q_aload_n c_174_4 rfl (v_cv c_174_5 km_8_131 rfl rfl (Nat.le_of_ble_eq_true rfl) ⟨⟨rfl, rfl⟩, Nat.le_of_ble_eq_true rfl, rfl⟩ (Nat.le_of_ble_eq_true rfl) (Nat.le_of_ble_eq_true rfl) (q_aload_n c_152_0 rfl (v_gi (z := 5) (v := c_460 1 5) c_152_1 kf_8_102 rfl (Nat.le_of_ble_eq_true rfl) rfl rfl hrb_hR_808.2.1 (q_iconst c_152_4 (v_ic_ne_t (t := 12) c_152_5 rfl ⟨by first | exact q_0f78863d3 h_817 | omega, ⟨(Int.le_trans (by decide) h_755.1), (Int.le_trans h_755.2 (by decide))⟩, by decide, by decide⟩ ?_)))))))
                refine q_iconst c_152_12 (v_zret c_152_13 rfl (by decide) (bk_inl (v_if_eq_t (t := 67) c_174_8 rfl (by decide) (q_vret rfl rfl ?_))))
                have h_818 : c_804 41 5 = c_460 1 5 := hrb_hR_808.2.1
                have h_819 : c_804 41 6 = c_460 1 4 := hrb_hR_808.2.2.2
                exact K c_804  hI_805 (fun a j hm => (hF_806 a j hm).trans ((up_b (Decidable.or_iff_not_imp_left.mpr (fun h1 h2 => hm (Or.inl ⟨Decidable.not_not.mp h1, h2⟩)))).trans ((hF_777 a j (fun h => hm (Or.inl h))).trans ((hF_772 a j (fun h => hm (Or.inl h))).trans ((hF_767 a j (fun h => hm (Or.inl h))).trans (hFc a j hm)))))) (rt_i2 ⟨⟨by first | exact q_c4ab36c8d h_751 h_817 | omega, by first | exact q_c99d6ea93 h_750 | omega⟩, by first | exact q_88dc5fb99 h_757 | omega, by first | exact q_cb71117a2 h_757 h_817 | omega, by first | exact q_88dc5fb99 h_751 | omega⟩) (Or.inr (Or.inl (by first | exact q_374cd1df9 h_751 h_817 | omega))) (by first | exact q_cea541e22 h_810 | omega) (fun hz => absurd hz (by first | exact q_293b4c771 h_751 h_817 | omega))
              · refine v_ic_ge_f (t := 59) c_13_12 rfl ⟨by first | exact rgp_l hv.1 (by decide) | omega, (Int.not_le.mp h_746), by decide⟩ (q_aload_n c_13_15 rfl (v_cv c_13_16 km_0_40 rfl rfl (Nat.le_of_ble_eq_true rfl) ⟨⟨rfl, rfl⟩, Nat.le_of_ble_eq_true rfl, rfl⟩ (Nat.le_of_ble_eq_true rfl) (Nat.le_of_ble_eq_true rfl) (q_aload_n c_2_0 rfl (v_gi (z := 4) (v := c_460 1 4) c_2_1 kf_5_38 rfl (Nat.le_of_ble_eq_true rfl) rfl rfl ((up_c (pn hA rfl rfl)).trans (up_c (pn hA rfl rfl))) (v_if_ne_t (t := 11) c_2_4 rfl ⟨by first | exact q_106d90f3b h_676 h_677 | omega, ⟨(Int.le_trans (by decide) h_676.1), (Int.le_trans h_676.2 (by decide))⟩, by decide, by decide⟩ (q_iconst c_2_11 (v_zret c_2_12 rfl (by decide) ?_)))))))
                refine bk_inl (v_if_eq_t (t := 59) c_13_19 rfl (by decide) (q_vret rfl rfl ?_))
                have hI_820 := iw_lg (j := c_460 (A + 7) 5) (v := 2001) hI_461 (lgp (k := 9) hA (by decide)) ⟨by decide, by decide⟩ (by omega)
                have hI_821 := iw_p7_5 (v := c_460 (A + 7) 5 + 1) hI_820 hA ⟨by first | exact rgp_l h_464.1 (by decide) | omega, by first | exact q_e92c430a0 h_465 | omega⟩
                intro hE_822
                have hW : Wd P Q P P (up (up c_460 (A + 9) (c_460 (A + 7) 5) 2001) (A + 7) 5 (c_460 (A + 7) 5 + 1)) = Wd P Q P P m9 := (Prod.mk.inj (Prod.mk.inj hE_822).2).1
                have h_823 := ir_1_4 hJ9
                have h_824 : m9 1 4 = c_460 1 4 := wd_fv (z := 4) 4 rfl hW rfl rfl rfl rfl (by decide) ((up_c (pn hA rfl rfl)).trans (up_c (pn hA rfl rfl))) ⟨(Int.le_trans (by decide) h_676.1), (Int.le_trans h_676.2 (by decide))⟩ ⟨(Int.le_trans (by decide) h_823.1), (Int.le_trans h_823.2 (by decide))⟩
                have h_825 := ir_1_2 hI_461
                have h_826 := ir_1_2 hJ9
                have h_827 : m9 1 2 = c_460 1 2 := wd_fv (z := 2) 2 rfl hW rfl rfl rfl rfl (by decide) ((up_c (pn hA rfl rfl)).trans (up_c (pn hA rfl rfl))) ⟨(Int.le_trans (by decide) h_825.1), (Int.le_trans h_825.2 (by decide))⟩ ⟨(Int.le_trans (by decide) h_826.1), (Int.le_trans h_826.2 (by decide))⟩
                have h_828 := ir_1_5 hI_461
                have h_829 := ir_1_5 hJ9
                have h_830 : m9 1 5 = c_460 1 5 := wd_fv (z := 5) 5 rfl hW rfl rfl rfl rfl (by decide) ((up_c (pn hA rfl rfl)).trans (up_c (pn hA rfl rfl))) ⟨(Int.le_trans (by decide) h_828.1), (Int.le_trans h_828.2 (by decide))⟩ ⟨(Int.le_trans (by decide) h_829.1), (Int.le_trans h_829.2 (by decide))⟩
                have h_831 := ir_p7_5 hJ9 hA
                have h_832 : m9 (A + 7) 5 = c_460 (A + 7) 5 + 1 := wd_fv (z := 5) 5 rfl hW (ck_p7 hA) (ck_p7 hA) rfl rfl (a68 hA rfl) (up_e rfl) ⟨by first | exact rgp_l h_464.1 (by decide) | omega, by first | exact rgp_h h_464.2 (by decide) | omega⟩ ⟨(Int.le_trans (by decide) h_831.1), (Int.le_trans h_831.2 (by decide))⟩
                refine q_aload_n c_174_4 rfl (v_cv c_174_5 km_8_131 rfl rfl (Nat.le_of_ble_eq_true rfl) ⟨⟨rfl, rfl⟩, Nat.le_of_ble_eq_true rfl, rfl⟩ (Nat.le_of_ble_eq_true rfl) (Nat.le_of_ble_eq_true rfl) (q_aload_n c_152_0 rfl (v_gi (z := 5) (v := (-1)) c_152_1 kf_8_102 rfl (Nat.le_of_ble_eq_true rfl) rfl rfl (hc_1) (q_iconst c_152_4 (v_ic_ne_f (t := 12) c_152_5 rfl (by decide) (q_iconst c_152_8 (q_goto (t := 13) c_152_9 rfl ?_)))))))
                refine v_zret c_152_13 rfl (by decide) (bk_inl (v_if_eq_f (t := 67) c_174_8 rfl (by decide) (q_aload_n c_174_11 rfl ?_)))
                have kn_833 : Hid (c2 41 3 = e1) := (hFc 41 3 qn_d31ba9b5e).trans (hr_e1)
                have h_834 : -2147483648 ≤ (H (nx F e1 a)) ∧ (H (nx F e1 a)) ≤ 2147483647 := by rw [← hH (nx F e1 a)]; exact ir_43 hI (nx F e1 a)
                have h_835 := hU (nx F e1 a) ((rg_be h_61 (ha.1) ((rg_eq hg_e1 h_1).2)).1) (by first | exact q_1c905e1ef h_72 hq5 | omega)
                have h_836 := hb_or (b := H) (e := e1) (r := (nx F e1 a))
                have h_837 := hb_bd (b := H) (e := e1) (r := (nx F e1 a)) (lo := -2147483648) (hi := 2147483647) h_834 (by decide)
                refine v_cv c_174_12 km_8_114 rfl rfl (Nat.le_of_ble_eq_true rfl) ⟨⟨rfl, rfl⟩, Nat.le_of_ble_eq_true rfl, rfl⟩ (Nat.le_of_ble_eq_true rfl) (Nat.le_of_ble_eq_true rfl) (f_154 (e1 := e1) (a9 := a) (B := H) (r8 := (nx F e1 a)) (r := (hb H e1 (nx F e1 a))) hI2 ((hid kn_833)) ((hr_a)) (fun j => (hFc 43 j qn_9b8df3fcd).trans (hH j)) ((nx_tr hU (ha.1) ((rg_eq hg_e1 h_1).2)).trans (rfl)) rfl (fun c_838 hI_839 hF_840 h_841 => (bk_inl (v_bip c_174_15 (by decide) (v_ic_eq_f (t := 29) c_174_17 rfl ⟨by first | (clear ha2 hq0 hq1 hq2 hq3 hq4 hq5 hv ha hnw h_1 hg_e1 h_2 hr_e1 h_3 hg_f0 h_4 hg_g0 h_5 hg_p0 h_6 hg_n0 h_7 hr_n0 h_8 hr_o0 h_9 hg_a h_10 hr_a h_11 hg_nw h_12 hr_nw h_13 hc_0 h_14 hc_1 h_15 hc_2 h_16 hc_3 hx0 hx1 hx2 hx3 h_17 h_60 h_61 h_62 h_464 h_465 h_676 h_746 h_823 h_824 h_825 h_826 h_827 h_828 h_829 h_830 h_831 h_832 h_834 h_837 h_63 h_677; omega) | omega, ⟨h_837.1, h_837.2⟩, by decide, by decide⟩ (q_aload_n c_174_20 rfl ?_))))))
                have kn_842 : Hid (c_838 41 3 = e1) := (hF_840 41 3 (fun h => absurd h.2 (ni rfl))).trans (hid kn_833)
                refine v_cv c_174_21 km_8_114 rfl rfl (Nat.le_of_ble_eq_true rfl) ⟨⟨rfl, rfl⟩, Nat.le_of_ble_eq_true rfl, rfl⟩ (Nat.le_of_ble_eq_true rfl) (Nat.le_of_ble_eq_true rfl) (f_154 (e1 := e1) (a9 := (nx F e1 a)) (B := H) (r8 := (nx F e1 a)) (r := (hb H e1 (nx F e1 a))) hI_839 ((hid kn_842)) ((h_841)) (fun j => ((hF_840 43 j (fun h => absurd h.1 (nn rfl))).trans (hFc 43 j qn_9b8df3fcd)).trans (hH j)) ((nx_tr hU ((rg_be h_61 (ha.1) ((rg_eq hg_e1 h_1).2)).1) ((rg_eq hg_e1 h_1).2)).trans ((nx_z (Or.inr (by first | exact q_648909069 h_72 | omega))))) rfl (fun c_843 hI_844 hF_845 h_846 => (bk_inl (v_bip c_174_24 (by decide) (v_ic_ne_f (t := 67) c_174_26 rfl (by first | (clear ha2 hq0 hq1 hq2 hq3 hq4 hq5 hv ha hnw h_1 hg_e1 h_2 hr_e1 h_3 hg_f0 h_4 hg_g0 h_5 hg_p0 h_6 hg_n0 h_7 hr_n0 h_8 hr_o0 h_9 hg_a h_10 hr_a h_11 hg_nw h_12 hr_nw h_13 hc_0 h_14 hc_1 h_15 hc_2 h_16 hc_3 hx0 hx1 hx2 hx3 h_17 h_60 h_61 h_62 h_464 h_465 h_676 h_746 h_823 h_824 h_825 h_826 h_827 h_828 h_829 h_830 h_831 h_832 h_834 h_837 h_63 h_677; omega) | omega) (q_aload_n c_174_29 rfl ?_))))))
                have kn_847 : Hid (c_843 41 3 = e1) := (hF_845 41 3 (fun h => absurd h.2 (ni rfl))).trans (hid kn_842)
                refine v_cv c_174_30 km_8_114 rfl rfl (Nat.le_of_ble_eq_true rfl) ⟨⟨rfl, rfl⟩, Nat.le_of_ble_eq_true rfl, rfl⟩ (Nat.le_of_ble_eq_true rfl) (Nat.le_of_ble_eq_true rfl) (f_154 (e1 := e1) (a9 := (nx F e1 a)) (B := H) (r8 := (nx F e1 a)) (r := (hb H e1 (nx F e1 a))) hI_844 ((hid kn_847)) ((h_846)) (fun j => ((hF_845 43 j (fun h => absurd h.1 (nn rfl))).trans ((hF_840 43 j (fun h => absurd h.1 (nn rfl))).trans (hFc 43 j qn_9b8df3fcd))).trans (hH j)) ((nx_tr hU ((rg_be h_61 (ha.1) ((rg_eq hg_e1 h_1).2)).1) ((rg_eq hg_e1 h_1).2)).trans ((nx_z (Or.inr (by first | exact q_648909069 h_72 | omega))))) rfl (fun c_848 hI_849 hF_850 h_851 => (bk_inl (v_bip c_174_33 (by decide) (v_ic_ne_t (t := 42) c_174_35 rfl ⟨by first | (clear ha2 hq0 hq1 hq2 hq3 hq4 hq5 hv ha hnw h_1 hg_e1 h_2 hr_e1 h_3 hg_f0 h_4 hg_g0 h_5 hg_p0 h_6 hg_n0 h_7 hr_n0 h_8 hr_o0 h_9 hg_a h_10 hr_a h_11 hg_nw h_12 hr_nw h_13 hc_0 h_14 hc_1 h_15 hc_2 h_16 hc_3 hx0 hx1 hx2 hx3 h_17 h_60 h_61 h_62 h_464 h_465 h_676 h_746 h_823 h_824 h_825 h_826 h_827 h_828 h_829 h_830 h_831 h_832 h_834 h_837 h_63 h_677; omega) | omega, ⟨h_837.1, h_837.2⟩, by decide, by decide⟩ (q_iconst c_174_42 (q_istore_n c_174_43 (Nat.le_of_ble_eq_true rfl) (q_aload_n c_174_44 rfl (q_dup c_174_45 rfl ?_)))))))))
                refine v_gi (z := 4) (v := (nx F e1 a)) c_174_46 kf_8_108 rfl (Nat.le_of_ble_eq_true rfl) rfl rfl (h_851) (q_iconst c_174_49 (v_iadd (v := (nx F e1 a) + 1) c_174_50 rfl (v_pi (z := 4) c_174_51 kf_8_108 rfl (Nat.le_of_ble_eq_true rfl) rfl rfl rfl (by decide) (q_aload_n c_174_54 rfl ?_))))
                have kn_852 : Hid (c_838 41 5 = (-1)) := (hF_840 41 5 (fun h => absurd h.2 (ni rfl))).trans (hc_1)
                have kn_853 : Hid (c_843 41 5 = (-1)) := (hF_845 41 5 (fun h => absurd h.2 (ni rfl))).trans (hid kn_852)
                have kn_854 : Hid (c_848 41 5 = (-1)) := (hF_850 41 5 (fun h => absurd h.2 (ni rfl))).trans (hid kn_853)
                have hI_855 := iw_41_4 (v := (nx F e1 a) + 1) hI_849 ⟨by first | exact rgp_l (rg_be h_61 (ha.1) ((rg_eq hg_e1 h_1).2)).1 (by decide) | omega, by first | exact rgp_h (rg_be h_61 (ha.1) ((rg_eq hg_e1 h_1).2)).2 (by decide) | omega⟩
                have kn_856 : Hid (c_69 1 1 = e1) := (hF_71 1 1 (fun h => absurd h.2 (ni rfl))).trans (hid kn_59)
                have kn_857 : Hid (c_848 41 3 = e1) := (hF_850 41 3 (fun h => absurd h.2 (ni rfl))).trans (hid kn_847)
                have kn_858 : Hid (c_69 1 5 = (-1)) := (hF_71 1 5 (fun h => absurd h.2 (ni rfl))).trans (hc_2)
                have kn_859 : Hid (c_69 (A + 7) 5 = nw) := (hF_71 (A + 7) 5 (fun h => absurd h.1 (np hA rfl rfl))).trans (hg_nw)
                have kn_860 : Hid (c_838 41 29 = nw) := (hF_840 41 29 (fun h => absurd h.2 (ni rfl))).trans (hr_nw)
                have kn_861 : Hid (c_843 41 29 = nw) := (hF_845 41 29 (fun h => absurd h.2 (ni rfl))).trans (hid kn_860)
                have kn_862 : Hid (c_848 41 29 = nw) := (hF_850 41 29 (fun h => absurd h.2 (ni rfl))).trans (hid kn_861)
                have kn_863 : Hid (c_838 41 7 = a2) := (hF_840 41 7 (fun h => absurd h.2 (ni rfl))).trans (hc_3)
                have kn_864 : Hid (c_843 41 7 = a2) := (hF_845 41 7 (fun h => absurd h.2 (ni rfl))).trans (hid kn_863)
                have kn_865 : Hid (c_848 41 7 = a2) := (hF_850 41 7 (fun h => absurd h.2 (ni rfl))).trans (hid kn_864)
                have h_866 : c_69 1 4 = 0 := (hid kn_459)
                have h_867 : c_69 1 2 = (nx F e1 a) + 1 := (hz_73)
                have h_868 : c_69 1 5 = (-1) := (hid kn_858)
                have h_869 : (up c_848 41 4 ((nx F e1 a) + 1)) 41 5 = (-1) := ((up_n (by decide)).trans (hid kn_854))
                have h_870 : (up c_848 41 4 ((nx F e1 a) + 1)) 41 4 = (nx F e1 a) + 1 := (up_e rfl)
                have h_871 := ir_41_6 hI2
                have kn_872 : Hid (c_838 41 6 = c2 41 6) := hF_840 41 6 (fun h => absurd h.2 (ni rfl))
                have kn_873 : Hid (c_843 41 6 = c2 41 6) := (hF_845 41 6 (fun h => absurd h.2 (ni rfl))).trans (hid kn_872)
                have kn_874 : Hid (c_848 41 6 = c2 41 6) := (hF_850 41 6 (fun h => absurd h.2 (ni rfl))).trans (hid kn_873)
                have h_875 : (up c_848 41 4 ((nx F e1 a) + 1)) 41 6 = c2 41 6 := ((up_n (by decide)).trans (hid kn_874))
                have hA_876 : Ce nw (c_69 (A + 9)) ((up c_848 41 4 ((nx F e1 a) + 1)) 50) ((up c_848 41 4 ((nx F e1 a) + 1)) 51) := ce_fr hrl0 (fun j => hF_71 (A + 9) j (fun h => absurd h.1 (np hA rfl rfl))) (fun j => (up_c (nn rfl)).trans ((hF_850 50 j (fun h => absurd h.1 (nn rfl))).trans ((hF_845 50 j (fun h => absurd h.1 (nn rfl))).trans (hF_840 50 j (fun h => absurd h.1 (nn rfl)))))) (fun j => (up_c (nn rfl)).trans ((hF_850 51 j (fun h => absurd h.1 (nn rfl))).trans ((hF_845 51 j (fun h => absurd h.1 (nn rfl))).trans (hF_840 51 j (fun h => absurd h.1 (nn rfl))))))
                refine v_cv c_174_55 km_8_239 rfl rfl (Nat.le_of_ble_eq_true rfl) ⟨⟨rfl, rfl⟩, Nat.le_of_ble_eq_true rfl, rfl⟩ (Nat.le_of_ble_eq_true rfl) (Nat.le_of_ble_eq_true rfl) (L_12 (m := c_69) (a2 := a2) (e1 := e1) (f0 := 0) (g0 := (-1)) (p0 := (nx F e1 a) + 1) (n0 := nw) (o0 := a2) (F := F) (H := H) hI_855 hI_70 hI_461 hA (show 0 ≤ a2 ∧ a2 ≤ 6 from ha2) (by first | assumption | omega) (by first | assumption | omega) (by first | assumption | omega) (by first | exact q_6d1e0f202 h_61 hq3 hx0 | omega) (by first | exact q_59aea9c2a h_72 | omega) (by first | exact q_7024b37ce hq5 | omega) ((hid kn_856)) (((up_n (by decide)).trans (hid kn_857))) ((hid kn_459)) ((hid kn_858)) ((hz_73)) ((hid kn_859)) (((up_n (by decide)).trans (hid kn_862))) (((up_n (by decide)).trans (hid kn_865))) (fun j => ((hF_71 2 j (fun h => absurd h.1 (nn rfl))).trans (hFm 2 j (qn_0eac3bbbd hA))).trans (hF j)) (fun j => ((up_c (nn rfl)).trans ((hF_850 43 j (fun h => absurd h.1 (nn rfl))).trans ((hF_845 43 j (fun h => absurd h.1 (nn rfl))).trans ((hF_840 43 j (fun h => absurd h.1 (nn rfl))).trans (hFc 43 j qn_9b8df3fcd))))).trans (hH j)) hU (rt_i1 ⟨by first | assumption | omega, by first | assumption | omega, by first | assumption | omega, by first | assumption | omega⟩) (ce_le hA_876 (by omega)) H13 hG_463 (fun c_877 hI_878 hF_879 hR_881 h_882 h_883 hA_884 => (bk_inl ?_)))
                have h_885 := ir_41_29 hI_878
                have h_886 := ir_41_7 hI_878
                refine q_aload_n c_174_58 rfl (q_iload_n c_174_59 rfl (q_iconst c_174_60 (v_cv c_174_61 km_8_242 rfl rfl (Nat.le_of_ble_eq_true rfl) ⟨⟨rfl, rfl⟩, Nat.le_of_ble_eq_true rfl, rfl⟩ (Nat.le_of_ble_eq_true rfl) (Nat.le_of_ble_eq_true rfl) (q_aload_n c_170_0 rfl (v_cv c_170_1 km_8_131 rfl rfl (Nat.le_of_ble_eq_true rfl) ⟨⟨rfl, rfl⟩, Nat.le_of_ble_eq_true rfl, rfl⟩ (Nat.le_of_ble_eq_true rfl) (Nat.le_of_ble_eq_true rfl) (q_aload_n c_152_0 rfl ?_))))))
                have h_887 := ir_41_5 hI_878
                have h_888 := ir_41_4 hI_878
                have h_889 := ir_41_6 hI_878
                have h_890 := rt_bad hR_881 (by first | exact q_106d90f3b h_676 h_677 | omega)
                have hrb_hR_881 := rt_bad hR_881 (by first | exact q_f7b7d720f h_890 | omega)
                refine v_gi (z := 5) (v := c_460 1 5) c_152_1 kf_8_102 rfl (Nat.le_of_ble_eq_true rfl) rfl rfl hrb_hR_881.2.1 (q_iconst c_152_4 (v_ic_ne_t (t := 12) c_152_5 rfl ⟨by first | exact q_0f78863d3 h_890 | omega, ⟨(Int.le_trans (by decide) h_828.1), (Int.le_trans h_828.2 (by decide))⟩, by decide, by decide⟩ (q_iconst c_152_12 (v_zret c_152_13 rfl (by decide) (bk_inl (v_if_ne_f (t := 8) c_170_4 rfl (by decide) (q_vret rfl rfl ?_)))))))
                refine bk_inl (q_goto (t := 4) c_174_64 rfl (q_aload_n c_174_4 rfl (v_cv c_174_5 km_8_131 rfl rfl (Nat.le_of_ble_eq_true rfl) ⟨⟨rfl, rfl⟩, Nat.le_of_ble_eq_true rfl, rfl⟩ (Nat.le_of_ble_eq_true rfl) (Nat.le_of_ble_eq_true rfl) (q_aload_n c_152_0 rfl (v_gi (z := 5) (v := c_460 1 5) c_152_1 kf_8_102 rfl (Nat.le_of_ble_eq_true rfl) rfl rfl hrb_hR_881.2.1 (q_iconst c_152_4 (v_ic_ne_t (t := 12) c_152_5 rfl ⟨by first | exact q_0f78863d3 h_890 | omega, ⟨(Int.le_trans (by decide) h_828.1), (Int.le_trans h_828.2 (by decide))⟩, by decide, by decide⟩ ?_)))))))
                refine q_iconst c_152_12 (v_zret c_152_13 rfl (by decide) (bk_inl (v_if_eq_t (t := 67) c_174_8 rfl (by decide) (q_vret rfl rfl ?_))))
                have h_891 : c_877 41 5 = c_460 1 5 := hrb_hR_881.2.1
                have h_892 : c_877 41 6 = c_460 1 4 := hrb_hR_881.2.2.2
                exact K c_877  hI_878 (fun a j hm => (hF_879 a j hm).trans ((up_b (Decidable.or_iff_not_imp_left.mpr (fun h1 h2 => hm (Or.inl ⟨Decidable.not_not.mp h1, h2⟩)))).trans ((hF_850 a j (fun h => hm (Or.inl h))).trans ((hF_845 a j (fun h => hm (Or.inl h))).trans ((hF_840 a j (fun h => hm (Or.inl h))).trans (hFc a j hm)))))) (rt_i2 ⟨⟨by first | exact q_c4ab36c8d h_824 h_890 | omega, by first | exact q_c99d6ea93 h_823 | omega⟩, by first | exact q_88dc5fb99 h_830 | omega, by first | exact q_cb71117a2 h_830 h_890 | omega, by first | exact q_88dc5fb99 h_824 | omega⟩) (Or.inr (Or.inl (by first | exact q_374cd1df9 h_824 h_890 | omega))) (by first | exact q_cea541e22 h_883 | omega) (fun hz => absurd hz (by first | exact q_293b4c771 h_824 h_890 | omega))
      · skip
        refine bk_inl (q_istore c_13_28 (Nat.le_of_ble_eq_true rfl) (q_iload c_13_30 rfl (q_iconst c_13_32 (v_ic_ne_f (t := 37) c_13_33 rfl (by decide) (q_vret rfl rfl ?_)))))
        intro hE_893
        have hW : Wd P Q P P c_74 = Wd P Q P P m9 := (Prod.mk.inj (Prod.mk.inj hE_893).2).1
        have kn_894 : Hid (c_74 1 4 = 0) := (hF_76 1 4 (fun h => absurd h.2 (ni rfl))).trans (hc_0)
        have h_895 := ir_1_4 hJ9
        have h_896 : m9 1 4 = 0 := wd_fv (z := 4) 4 rfl hW rfl rfl rfl rfl (by decide) (hid kn_894) ⟨by decide, by decide⟩ ⟨(Int.le_trans (by decide) h_895.1), (Int.le_trans h_895.2 (by decide))⟩
        have h_897 := ir_1_2 hJ9
        have h_898 : m9 1 2 = (nx F e1 a) := wd_fv (z := 2) 2 rfl hW rfl rfl rfl rfl (by decide) (hz_78) ⟨(Int.le_trans (by decide) (rg_be h_61 (ha.1) ((rg_eq hg_e1 h_1).2)).1), (Int.le_trans (rg_be h_61 (ha.1) ((rg_eq hg_e1 h_1).2)).2 (by decide))⟩ ⟨(Int.le_trans (by decide) h_897.1), (Int.le_trans h_897.2 (by decide))⟩
        have kn_899 : Hid (c_74 1 5 = (-1)) := (hF_76 1 5 (fun h => absurd h.2 (ni rfl))).trans (hc_2)
        have h_900 := ir_1_5 hJ9
        have h_901 : m9 1 5 = (-1) := wd_fv (z := 5) 5 rfl hW rfl rfl rfl rfl (by decide) (hid kn_899) ⟨by decide, by decide⟩ ⟨(Int.le_trans (by decide) h_900.1), (Int.le_trans h_900.2 (by decide))⟩
        have kn_902 : Hid (c_74 (A + 7) 5 = nw) := (hF_76 (A + 7) 5 (fun h => absurd h.1 (np hA rfl rfl))).trans (hg_nw)
        have h_903 := ir_p7_5 hJ9 hA
        have h_904 : m9 (A + 7) 5 = nw := wd_fv (z := 5) 5 rfl hW (ck_p7 hA) (ck_p7 hA) rfl rfl (a68 hA rfl) (hid kn_902) ⟨(Int.le_trans (by decide) hnw.1), (Int.le_trans hnw.2 (by decide))⟩ ⟨(Int.le_trans (by decide) h_903.1), (Int.le_trans h_903.2 (by decide))⟩
        refine q_aload_n c_174_4 rfl (v_cv c_174_5 km_8_131 rfl rfl (Nat.le_of_ble_eq_true rfl) ⟨⟨rfl, rfl⟩, Nat.le_of_ble_eq_true rfl, rfl⟩ (Nat.le_of_ble_eq_true rfl) (Nat.le_of_ble_eq_true rfl) (q_aload_n c_152_0 rfl (v_gi (z := 5) (v := (-1)) c_152_1 kf_8_102 rfl (Nat.le_of_ble_eq_true rfl) rfl rfl (hc_1) (q_iconst c_152_4 (v_ic_ne_f (t := 12) c_152_5 rfl (by decide) (q_iconst c_152_8 (q_goto (t := 13) c_152_9 rfl ?_)))))))
        refine v_zret c_152_13 rfl (by decide) (bk_inl (v_if_eq_f (t := 67) c_174_8 rfl (by decide) (q_aload_n c_174_11 rfl ?_)))
        have kn_905 : Hid (c2 41 3 = e1) := (hFc 41 3 qn_d31ba9b5e).trans (hr_e1)
        have h_906 : -2147483648 ≤ (H (nx F e1 a)) ∧ (H (nx F e1 a)) ≤ 2147483647 := by rw [← hH (nx F e1 a)]; exact ir_43 hI (nx F e1 a)
        have h_907 := hU (nx F e1 a) ((rg_be h_61 (ha.1) ((rg_eq hg_e1 h_1).2)).1) (by first | exact q_a284cb6a7 h_61 hq5 | omega)
        have h_908 := hb_or (b := H) (e := e1) (r := (nx F e1 a))
        have h_909 := hb_bd (b := H) (e := e1) (r := (nx F e1 a)) (lo := -2147483648) (hi := 2147483647) h_906 (by decide)
        refine v_cv c_174_12 km_8_114 rfl rfl (Nat.le_of_ble_eq_true rfl) ⟨⟨rfl, rfl⟩, Nat.le_of_ble_eq_true rfl, rfl⟩ (Nat.le_of_ble_eq_true rfl) (Nat.le_of_ble_eq_true rfl) (f_154 (e1 := e1) (a9 := a) (B := H) (r8 := (nx F e1 a)) (r := (hb H e1 (nx F e1 a))) hI2 ((hid kn_905)) ((hr_a)) (fun j => (hFc 43 j qn_9b8df3fcd).trans (hH j)) ((nx_tr hU (ha.1) ((rg_eq hg_e1 h_1).2)).trans (rfl)) rfl (fun c_910 hI_911 hF_912 h_913 => (bk_inl (v_bip c_174_15 (by decide) (v_ic_eq_f (t := 29) c_174_17 rfl ⟨by first | (clear ha2 hq0 hq1 hq2 hq3 hq4 hq5 hv ha hnw h_1 hg_e1 h_2 hr_e1 h_3 hg_f0 h_4 hg_g0 h_5 hg_p0 h_6 hg_n0 h_7 hr_n0 h_8 hr_o0 h_9 hg_a h_10 hr_a h_11 hg_nw h_12 hr_nw h_13 hc_0 h_14 hc_1 h_15 hc_2 h_16 hc_3 hx0 hx1 hx2 hx3 h_17 h_60 h_61 h_62 h_895 h_896 h_897 h_898 h_900 h_901 h_903 h_904 h_906 h_909 h_63; omega) | omega, ⟨h_909.1, h_909.2⟩, by decide, by decide⟩ (q_aload_n c_174_20 rfl ?_))))))
        have kn_914 : Hid (c_910 41 3 = e1) := (hF_912 41 3 (fun h => absurd h.2 (ni rfl))).trans (hid kn_905)
        refine v_cv c_174_21 km_8_114 rfl rfl (Nat.le_of_ble_eq_true rfl) ⟨⟨rfl, rfl⟩, Nat.le_of_ble_eq_true rfl, rfl⟩ (Nat.le_of_ble_eq_true rfl) (Nat.le_of_ble_eq_true rfl) (f_154 (e1 := e1) (a9 := (nx F e1 a)) (B := H) (r8 := (nx F e1 a)) (r := (hb H e1 (nx F e1 a))) hI_911 ((hid kn_914)) ((h_913)) (fun j => ((hF_912 43 j (fun h => absurd h.1 (nn rfl))).trans (hFc 43 j qn_9b8df3fcd)).trans (hH j)) ((nx_tr hU ((rg_be h_61 (ha.1) ((rg_eq hg_e1 h_1).2)).1) ((rg_eq hg_e1 h_1).2)).trans ((nx_z (by omega)))) rfl (fun c_915 hI_916 hF_917 h_918 => (bk_inl (v_bip c_174_24 (by decide) (v_ic_ne_t (t := 67) c_174_26 rfl ⟨by first | (clear ha2 hq0 hq1 hq2 hq3 hq4 hq5 hv ha hnw h_1 hg_e1 h_2 hr_e1 h_3 hg_f0 h_4 hg_g0 h_5 hg_p0 h_6 hg_n0 h_7 hr_n0 h_8 hr_o0 h_9 hg_a h_10 hr_a h_11 hg_nw h_12 hr_nw h_13 hc_0 h_14 hc_1 h_15 hc_2 h_16 hc_3 hx0 hx1 hx2 hx3 h_17 h_60 h_61 h_62 h_895 h_896 h_897 h_898 h_900 h_901 h_903 h_904 h_906 h_909 h_63; omega) | omega, ⟨h_909.1, h_909.2⟩, by decide, by decide⟩ (q_vret rfl rfl ?_))))))
        have kn_919 : Hid (c_910 41 5 = (-1)) := (hF_912 41 5 (fun h => absurd h.2 (ni rfl))).trans (hc_1)
        have kn_920 : Hid (c_915 41 5 = (-1)) := (hF_917 41 5 (fun h => absurd h.2 (ni rfl))).trans (hid kn_919)
        have h_921 : c_915 41 5 = (-1) := (hid kn_920)
        have h_922 : c_915 41 4 = (nx F e1 a) := (h_918)
        have h_923 := ir_41_6 hI2
        have kn_924 : Hid (c_910 41 6 = c2 41 6) := hF_912 41 6 (fun h => absurd h.2 (ni rfl))
        have kn_925 : Hid (c_915 41 6 = c2 41 6) := (hF_917 41 6 (fun h => absurd h.2 (ni rfl))).trans (hid kn_924)
        have h_926 : c_915 41 6 = c2 41 6 := (hid kn_925)
        have kn_927 : Hid (c_910 41 29 = nw) := (hF_912 41 29 (fun h => absurd h.2 (ni rfl))).trans (hr_nw)
        have kn_928 : Hid (c_915 41 29 = nw) := (hF_917 41 29 (fun h => absurd h.2 (ni rfl))).trans (hid kn_927)
        have h_929 : c_915 41 29 = nw := (hid kn_928)
        have kn_930 : Hid (c_910 41 7 = a2) := (hF_912 41 7 (fun h => absurd h.2 (ni rfl))).trans (hc_3)
        have kn_931 : Hid (c_915 41 7 = a2) := (hF_917 41 7 (fun h => absurd h.2 (ni rfl))).trans (hid kn_930)
        have h_932 : c_915 41 7 = a2 := (hid kn_931)
        have h_933 : c_915 41 29 = nw := (hid kn_928)
        have hA_934 : Ce nw (c_74 (A + 9)) (c_915 50) (c_915 51) := ce_fr hrl0 (fun j => hF_76 (A + 9) j (fun h => absurd h.1 (np hA rfl rfl))) (fun j => (hF_917 50 j (fun h => absurd h.1 (nn rfl))).trans (hF_912 50 j (fun h => absurd h.1 (nn rfl)))) (fun j => (hF_917 51 j (fun h => absurd h.1 (nn rfl))).trans (hF_912 51 j (fun h => absurd h.1 (nn rfl))))
        have hA_935 : Ce nw (m9 (A + 9)) (c_915 50) (c_915 51) := ce_l hA_934 (fun j h1 h2 => wd_av hW (ck_p9 hA) (ck_p9 hA) (by decide) (a68 hA rfl) ⟨h1, by omega⟩ rfl (ir_p9 hI_75 hA j) (ir_p9 hJ9 hA j))
        exact K c_915  hI_916 (fun a j hm => (hF_917 a j (fun h => hm (Or.inl h))).trans ((hF_912 a j (fun h => hm (Or.inl h))).trans (hFc a j hm))) (rt_i1 ⟨by first | exact q_f6b658f58 h_895 h_896 | omega, by first | assumption | omega, by first | exact q_88dc5fb99 h_898 | omega, by first | exact q_f39655ca6 h_900 h_901 | omega⟩) (Or.inr (Or.inr ⟨by first | exact q_d8da297ae h_904 | omega, by first | exact q_2009c8adc h_61 h_898 hx0 | omega, by first | exact q_eceb3d3ad h_61 h_898 | omega, by first | exact q_79e920e69 h_61 h_898 hx1 | omega⟩)) (by first | assumption | omega) (fun _ => ce_le hA_935 (by omega))
set_option maxRecDepth 100000 in
set_option maxHeartbeats 4000000 in
theorem L_13 {sc : List Int32} {e eg : Int} {d dh u ug P Q P2 Q2 A : Nat} {c m m9 : ME} {a2 e1 f0 g0 p0 n0 o0 : Int} {F H : Int → Int} {Z : AR → Prop} (hI : Iv u e P2 Q2 c) (hJ : Iv ug eg P Q m) (hJ9 : Iv ug eg P Q m9) (hA : A = 13 ∨ A = 25) (ha2 : 0 ≤ a2 ∧ a2 ≤ 6) (hq0 : (f0 = 0)) (hq1 : (g0 = (-1))) (hq2 : (o0 = a2)) (hq3 : (n0 ≤ p0)) (hq4 : (p0 ≤ e1)) (hq5 : (e1 ≤ 150)) (hg_e1 : m 1 1 = e1) (hr_e1 : c 41 3 = e1) (hg_f0 : m 1 4 = f0) (hg_g0 : m 1 5 = g0) (hg_p0 : m 1 2 = p0) (hg_n0 : m (A + 7) 5 = n0) (hr_n0 : c 41 29 = n0) (hr_o0 : c 41 7 = o0) (hF : ∀ j : Int, m 2 j = F j) (hH : ∀ j : Int, c 43 j = H j) (hU : Ub F H) (hRt : Rt m c) (hr0 : Ce n0 (m (A + 9)) (c 50) (c 51)) (H13 : ∀ {d9 : Nat} {c m m9 : ME} {e1 f0 g0 p0 n0 o0 : Int} {Z : AR → Prop}, d ≤ d9 → a2 + 1 ≤ 6 → (Iv u e P2 Q2 c) → (Iv ug eg P Q m) → (Iv ug eg P Q m9) → (0 ≤ (a2 + 1) ∧ (a2 + 1) ≤ 6) → ((f0 = 0)) → ((g0 = (-1))) → ((o0 = (a2 + 1))) → ((n0 ≤ p0)) → ((p0 ≤ e1)) → ((e1 ≤ 150)) → (m 1 1 = e1) → (c 41 3 = e1) → (m 1 4 = f0) → (m 1 5 = g0) → (m 1 2 = p0) → (m (A + 7) 5 = n0) → (c 41 29 = n0) → (c 41 7 = o0) → (∀ j : Int, m 2 j = F j) → (∀ j : Int, c 43 j = H j) → (Ub F H) → (Rt m c) → (Ce n0 (m (A + 9)) (c 50) (c 51)) → (Wp sc (dh + 33) 13 0 [(0, .ref (A + 7)), (1, .ref 1), (2, vi (a2 + 1))] [] (Wd P Q P P m) 0 0 (fun q => q = (.inl (none), Wd P Q P P m9, 0, 0))) → (∀ (c2 : ME), Iv u e P2 Q2 c2 → (∀ (a : Nat) (j : Int), ¬ ((a = 41 ∧ j = 4) ∨ (a = 41 ∧ j = 5) ∨ (a = 41 ∧ j = 6) ∨ (a = 41 ∧ j = 7) ∨ (a = 41 ∧ j = 29) ∨ a = 50 ∨ a = 51) → c2 a j = c a j) → (Rt m9 c2) → ((m9 1 4 < 0) ∨ (m9 1 4 > 0) ∨ (m9 (A + 7) 5 = c2 41 29 ∧ c2 41 29 + p0 ≤ m9 1 2 + n0 ∧ m9 1 2 ≤ e1 ∧ m9 1 2 ≥ p0)) → ((c2 41 7 = (a2 + 1))) → (m9 1 4 = 0 → Ce (c2 41 29) (m9 (A + 9)) (c2 50) (c2 51)) → Z (.inl (none), Wd P2 Q2 P2 P2 c2, 0, 0)) → Wp sc (d9 + 32) 174 0 [(0, .ref 41)] [] (Wd P2 Q2 P2 P2 c) 0 0 Z) (hG : Wp sc (dh + 36) 13 0 [(0, .ref (A + 7)), (1, .ref 1), (2, vi a2)] [] (Wd P Q P P m) 0 0 (fun q => q = (.inl (none), Wd P Q P P m9, 0, 0))) (K : ∀ (c2 : ME), Iv u e P2 Q2 c2 → (∀ (a : Nat) (j : Int), ¬ ((a = 41 ∧ j = 4) ∨ (a = 41 ∧ j = 5) ∨ (a = 41 ∧ j = 6) ∨ (a = 41 ∧ j = 7) ∨ (a = 41 ∧ j = 29) ∨ a = 50 ∨ a = 51) → c2 a j = c a j) → (Rt m9 c2) → ((m9 1 4 < 0) ∨ (m9 1 4 > 0) ∨ (m9 (A + 7) 5 = c2 41 29 ∧ c2 41 29 + p0 ≤ m9 1 2 + n0 ∧ m9 1 2 ≤ e1 ∧ m9 1 2 ≥ p0)) → ((c2 41 7 = a2)) → (m9 1 4 = 0 → Ce (c2 41 29) (m9 (A + 9)) (c2 50) (c2 51)) → Z (.inl (none), Wd P2 Q2 P2 P2 c2, 0, 0)) : Wp sc (d + 36) 174 0 [(0, .ref 41)] [] (Wd P2 Q2 P2 P2 c) 0 0 Z := by
  have hP := iv_P hJ
  have hQ := iv_Q hJ
  have h_936 := ir_1_1 hJ
  have h_937 := ir_41_3 hI
  have h_938 := ir_1_4 hJ
  have h_939 := ir_1_5 hJ
  have h_940 := ir_1_2 hJ
  have h_941 := ir_p7_5 hJ hA
  have h_942 := ir_41_29 hI
  have h_943 := ir_41_7 hI
  refine gh hG (q_aload_n c_13_0 rfl (q_aload_n c_13_1 rfl (q_iload_n c_13_2 rfl (v_cv c_13_3 km_0_50 rfl (ck_p7 hA) (a68 hA rfl) ⟨⟨rfl, rfl⟩, by decide, rfl⟩ (Nat.le_of_ble_eq_true rfl) (Nat.le_of_ble_eq_true rfl) (fn_of (r_12 (a2 := a2) hJ hA (show 0 ≤ a2 ∧ a2 ≤ 6 from ha2) (fun c_944 hI_945 hF_946 => ?_)))))))
  intro hG_947
  refine bk_inl (q_iconst c_13_6 (q_istore_n c_13_7 (Nat.le_of_ble_eq_true rfl) ?_))
  have h_948 := ir_1_4 hI_945
  by_cases h_949 : c_944 1 4 = 0
  · skip
    refine Wp_ls [(0, .ref (A + 7)), (1, .ref 1), (2, vi a2), (3, vi 0)] (lsub_cons rfl (lsub_cons rfl (lsub_cons rfl (lsub_cons rfl lsub_nil)))) (gh_stop ((s_13_l (sc := sc) (d := dh + 22) (c := c_944) (a2 := a2) (Z := fun _ => True) hI_945 hA ha2 (fun c9 Z9 h hI9 K9 => r_13 (d := dh + 1) hI9 hA ⟨by omega, h⟩ K9) (fun _ _ _ => trivial) 304) c_944 0 hI_945 (fun a j hm => rfl) ⟨by omega, by omega⟩ (by omega)) (fun hG_950 => (q_aload_n c_174_0 rfl ?_)))
    have h_951 := ir_41_5 hI
    have h_952 := ir_41_4 hI
    have h_953 := ir_41_6 hI
    have h_954 := rt_ok hRt (by first | exact q_2cabce820 h_938 hg_f0 hq0 | omega)
    have hro_hRt := rt_ok hRt (by first | exact q_f9c88a064 hq0 | omega)
    refine v_cv c_174_1 km_8_239 rfl rfl (Nat.le_of_ble_eq_true rfl) ⟨⟨rfl, rfl⟩, Nat.le_of_ble_eq_true rfl, rfl⟩ (Nat.le_of_ble_eq_true rfl) (Nat.le_of_ble_eq_true rfl) (L_12 (m := m) (a2 := a2) (e1 := e1) (f0 := f0) (g0 := g0) (p0 := p0) (n0 := n0) (o0 := o0) (F := F) (H := H) hI hJ hI_945 hA (show 0 ≤ a2 ∧ a2 ≤ 6 from ha2) (by first | exact q_f9c88a064 hq0 | omega) (by first | exact q_ef26995af hq1 | omega) (by first | exact q_cea541e22 hq2 | omega) (by first | exact q_eb7e24553 hq3 | omega) (by first | exact q_eb7e24553 hq4 | omega) (by first | exact q_7024b37ce hq5 | omega) ((hg_e1)) ((hr_e1)) ((hg_f0)) ((hg_g0)) ((hg_p0)) ((hg_n0)) ((hr_n0)) ((hr_o0)) (fun j => hF j) (fun j => hH j) hU hRt (ce_le hr0 (by omega)) H13 hG_947 (fun c_955 hI_956 hF_957 hR_959 h_960 h_961 hA_962 => (bk_inl ?_)))
    have h_963 := ir_41_29 hI_956
    have h_964 := ir_p7_5 hI_945 hA
    have h_965 := ir_1_2 hI_945
    have h_966 := ir_41_7 hI_956
    refine Wp_ls [(0, .ref 41)] (lsub_cons rfl lsub_nil) ?_
    have h_967 := ir_41_4 hI_956
    have h_968 := ir_1_5 hI_945
    have h_969 := ir_41_5 hI_956
    have h_970 := ir_41_6 hI_956
    have h_971 := rt_ok hR_959 (by first | exact q_f6b658f58 h_948 h_949 | omega)
    have hro_hR_959 := rt_ok hR_959 (by first | exact q_f6b658f58 h_948 h_949 | omega)
    have hA_972 : Ce (c_944 (A + 7) 5) (c_944 (A + 9)) (c_955 50) (c_955 51) := ce_le (hA_962 (by omega)) (by omega)
    exact (L_13_l (sc := sc) (d := d) (dh := dh) hI hJ hJ9 hA ha2 hq0 hq1 hq2 hq3 hq4 hq5 hg_e1 hr_e1 hg_f0 hg_g0 hg_p0 hg_n0 hr_n0 hr_o0 hF hH hU hRt hr0 H13 K 602) c_955 c_944 0 (c_944 1 2) (c_944 (A + 7) 5) hI_956 (fun a j hm => hF_957 a j hm) hI_945 (fun a j hm => hF_946 a j hm) ⟨by decide, by decide⟩ h_965 h_964 (rfl) (hro_hR_959.2.2.1) (rfl) ((show _ = c_955 41 29 from rfl).trans (by first | assumption | exact Int.le_antisymm (by first | exact q_c5630313e h_948 h_949 h_960 | omega) (by first | exact q_a9235ccbc h_948 h_949 h_960 | omega))) ((show _ = c_944 1 4 from rfl).trans (by first | assumption | exact Int.le_antisymm (by first | exact q_d1e538aa4 h_949 | omega) (by first | exact q_eb3a7ad7a h_948 | omega))) (hro_hR_959.2.1) ((show _ = c_944 1 5 from rfl).trans (by first | assumption | exact Int.le_antisymm (by first | exact q_10f95419d h_971 | omega) (by first | exact q_3d8b3e7e9 h_968 | omega))) ((show _ = c_955 41 7 from rfl).trans (by first | assumption | exact Int.le_antisymm (by first | exact q_f85ce3c92 h_961 | omega) (by first | exact q_f91efb75c h_961 | omega))) (by first | exact q_c749247ed h_948 h_949 h_960 | omega) (by first | exact q_c57d5775f h_948 h_949 h_960 | omega) (by first | exact q_86b52ec1d h_948 h_949 h_960 | omega) (by first | exact q_dceff947e h_965 | omega) (ce_le hA_972 (by omega)) hG_950 (by omega)
  · skip
    refine q_iload_n c_13_8 rfl (v_sip c_13_9 (by decide) (v_ic_ge_f (t := 59) c_13_12 rfl (by decide) (q_aload_n c_13_15 rfl (v_cv c_13_16 km_0_40 rfl rfl (Nat.le_of_ble_eq_true rfl) ⟨⟨rfl, rfl⟩, Nat.le_of_ble_eq_true rfl, rfl⟩ (Nat.le_of_ble_eq_true rfl) (Nat.le_of_ble_eq_true rfl) (q_aload_n c_2_0 rfl (v_gi (z := 4) (v := c_944 1 4) c_2_1 kf_5_38 rfl (Nat.le_of_ble_eq_true rfl) rfl rfl rfl (v_if_ne_t (t := 11) c_2_4 rfl ⟨by first | exact q_106d90f3b h_948 h_949 | omega, ⟨(Int.le_trans (by decide) h_948.1), (Int.le_trans h_948.2 (by decide))⟩, by decide, by decide⟩ ?_)))))))
    refine q_iconst c_2_11 (v_zret c_2_12 rfl (by decide) (bk_inl (v_if_eq_t (t := 59) c_13_19 rfl (by decide) (q_vret rfl rfl ?_))))
    intro hE_973
    have hW : Wd P Q P P c_944 = Wd P Q P P m9 := (Prod.mk.inj (Prod.mk.inj hE_973).2).1
    have h_974 := ir_1_4 hJ9
    have h_975 : m9 1 4 = c_944 1 4 := wd_fv (z := 4) 4 rfl hW rfl rfl rfl rfl (by decide) rfl ⟨(Int.le_trans (by decide) h_948.1), (Int.le_trans h_948.2 (by decide))⟩ ⟨(Int.le_trans (by decide) h_974.1), (Int.le_trans h_974.2 (by decide))⟩
    have h_976 := ir_1_2 hI_945
    have h_977 := ir_1_2 hJ9
    have h_978 : m9 1 2 = c_944 1 2 := wd_fv (z := 2) 2 rfl hW rfl rfl rfl rfl (by decide) rfl ⟨(Int.le_trans (by decide) h_976.1), (Int.le_trans h_976.2 (by decide))⟩ ⟨(Int.le_trans (by decide) h_977.1), (Int.le_trans h_977.2 (by decide))⟩
    have h_979 := ir_1_5 hI_945
    have h_980 := ir_1_5 hJ9
    have h_981 : m9 1 5 = c_944 1 5 := wd_fv (z := 5) 5 rfl hW rfl rfl rfl rfl (by decide) rfl ⟨(Int.le_trans (by decide) h_979.1), (Int.le_trans h_979.2 (by decide))⟩ ⟨(Int.le_trans (by decide) h_980.1), (Int.le_trans h_980.2 (by decide))⟩
    have h_982 := ir_p7_5 hI_945 hA
    have h_983 := ir_p7_5 hJ9 hA
    have h_984 : m9 (A + 7) 5 = c_944 (A + 7) 5 := wd_fv (z := 5) 5 rfl hW (ck_p7 hA) (ck_p7 hA) rfl rfl (a68 hA rfl) rfl ⟨(Int.le_trans (by decide) h_982.1), (Int.le_trans h_982.2 (by decide))⟩ ⟨(Int.le_trans (by decide) h_983.1), (Int.le_trans h_983.2 (by decide))⟩
    refine q_aload_n c_174_0 rfl ?_
    have h_985 := ir_41_5 hI
    have h_986 := ir_41_4 hI
    have h_987 := ir_41_6 hI
    have h_988 := rt_ok hRt (by first | exact q_2cabce820 h_938 hg_f0 hq0 | omega)
    have hro_hRt := rt_ok hRt (by first | exact q_f9c88a064 hq0 | omega)
    refine v_cv c_174_1 km_8_239 rfl rfl (Nat.le_of_ble_eq_true rfl) ⟨⟨rfl, rfl⟩, Nat.le_of_ble_eq_true rfl, rfl⟩ (Nat.le_of_ble_eq_true rfl) (Nat.le_of_ble_eq_true rfl) (L_12 (m := m) (a2 := a2) (e1 := e1) (f0 := f0) (g0 := g0) (p0 := p0) (n0 := n0) (o0 := o0) (F := F) (H := H) hI hJ hI_945 hA (show 0 ≤ a2 ∧ a2 ≤ 6 from ha2) (by first | exact q_f9c88a064 hq0 | omega) (by first | exact q_ef26995af hq1 | omega) (by first | exact q_cea541e22 hq2 | omega) (by first | exact q_eb7e24553 hq3 | omega) (by first | exact q_eb7e24553 hq4 | omega) (by first | exact q_7024b37ce hq5 | omega) ((hg_e1)) ((hr_e1)) ((hg_f0)) ((hg_g0)) ((hg_p0)) ((hg_n0)) ((hr_n0)) ((hr_o0)) (fun j => hF j) (fun j => hH j) hU hRt (ce_le hr0 (by omega)) H13 hG_947 (fun c_989 hI_990 hF_991 hR_993 h_994 h_995 hA_996 => (bk_inl ?_)))
    have h_997 := ir_41_29 hI_990
    have h_998 := ir_41_7 hI_990
    refine q_aload_n c_174_4 rfl (v_cv c_174_5 km_8_131 rfl rfl (Nat.le_of_ble_eq_true rfl) ⟨⟨rfl, rfl⟩, Nat.le_of_ble_eq_true rfl, rfl⟩ (Nat.le_of_ble_eq_true rfl) (Nat.le_of_ble_eq_true rfl) (q_aload_n c_152_0 rfl ?_))
    have h_999 := ir_41_5 hI_990
    have h_1000 := ir_41_4 hI_990
    have h_1001 := ir_41_6 hI_990
    have h_1002 := rt_bad hR_993 (by first | exact q_106d90f3b h_948 h_949 | omega)
    have hrb_hR_993 := rt_bad hR_993 (by first | exact q_f7b7d720f h_1002 | omega)
    refine v_gi (z := 5) (v := c_944 1 5) c_152_1 kf_8_102 rfl (Nat.le_of_ble_eq_true rfl) rfl rfl hrb_hR_993.2.1 (q_iconst c_152_4 (v_ic_ne_t (t := 12) c_152_5 rfl ⟨by first | exact q_0f78863d3 h_1002 | omega, ⟨(Int.le_trans (by decide) h_979.1), (Int.le_trans h_979.2 (by decide))⟩, by decide, by decide⟩ (q_iconst c_152_12 (v_zret c_152_13 rfl (by decide) (bk_inl (v_if_eq_t (t := 67) c_174_8 rfl (by decide) (q_vret rfl rfl ?_)))))))
    have h_1003 : c_989 41 5 = c_944 1 5 := hrb_hR_993.2.1
    have h_1004 : c_989 41 6 = c_944 1 4 := hrb_hR_993.2.2.2
    exact K c_989  hI_990 (fun a j hm => hF_991 a j hm) (rt_i2 ⟨⟨by first | exact q_48b28b139 h_1002 h_975 | omega, by first | exact q_c99d6ea93 h_974 | omega⟩, by first | exact q_88dc5fb99 h_981 | omega, by first | exact q_8f79b5460 h_1002 h_981 | omega, by first | exact q_88dc5fb99 h_975 | omega⟩) (Or.inr (Or.inl (by first | exact q_e645425a0 h_1002 h_975 | omega))) (by first | exact q_cea541e22 h_995 | omega) (fun hz => absurd hz (by first | exact q_79b615f92 h_1002 h_975 | omega))

set_option maxRecDepth 100000 in
set_option maxHeartbeats 4000000 in
theorem L_13_n {sc : List Int32} {e eg : Int} {u ug P Q P2 Q2 A : Nat} {F H : Int → Int} (hA : A = 13 ∨ A = 25) (k : Nat) : ∀ (d dh : Nat) (c m m9 : ME) (a2 e1 f0 g0 p0 n0 o0 : Int) (Z : AR → Prop), 6 - a2 ≤ (k : Int) → (Iv u e P2 Q2 c) → (Iv ug eg P Q m) → (Iv ug eg P Q m9) → (0 ≤ a2 ∧ a2 ≤ 6) → ((f0 = 0)) → ((g0 = (-1))) → ((o0 = a2)) → ((n0 ≤ p0)) → ((p0 ≤ e1)) → ((e1 ≤ 150)) → (m 1 1 = e1) → (c 41 3 = e1) → (m 1 4 = f0) → (m 1 5 = g0) → (m 1 2 = p0) → (m (A + 7) 5 = n0) → (c 41 29 = n0) → (c 41 7 = o0) → (∀ j : Int, m 2 j = F j) → (∀ j : Int, c 43 j = H j) → (Ub F H) → (Rt m c) → (Ce n0 (m (A + 9)) (c 50) (c 51)) → (Wp sc (dh + 3 * k + 36) 13 0 [(0, .ref (A + 7)), (1, .ref 1), (2, vi a2)] [] (Wd P Q P P m) 0 0 (fun q => q = (.inl (none), Wd P Q P P m9, 0, 0))) → (∀ (c2 : ME), Iv u e P2 Q2 c2 → (∀ (a : Nat) (j : Int), ¬ ((a = 41 ∧ j = 4) ∨ (a = 41 ∧ j = 5) ∨ (a = 41 ∧ j = 6) ∨ (a = 41 ∧ j = 7) ∨ (a = 41 ∧ j = 29) ∨ a = 50 ∨ a = 51) → c2 a j = c a j) → (Rt m9 c2) → ((m9 1 4 < 0) ∨ (m9 1 4 > 0) ∨ (m9 (A + 7) 5 = c2 41 29 ∧ c2 41 29 + p0 ≤ m9 1 2 + n0 ∧ m9 1 2 ≤ e1 ∧ m9 1 2 ≥ p0)) → ((c2 41 7 = a2)) → (m9 1 4 = 0 → Ce (c2 41 29) (m9 (A + 9)) (c2 50) (c2 51)) → Z (.inl (none), Wd P2 Q2 P2 P2 c2, 0, 0)) → Wp sc (d + 4 * k + 36) 174 0 [(0, .ref 41)] [] (Wd P2 Q2 P2 P2 c) 0 0 Z := by
  induction k with
  | zero =>
    intro d dh c m m9 a2 e1 f0 g0 p0 n0 o0 Z hk hI hJ hJ9 ha2 hq0 hq1 hq2 hq3 hq4 hq5 hg_e1 hr_e1 hg_f0 hg_g0 hg_p0 hg_n0 hr_n0 hr_o0 hF hH hU hRt hr0 hG K
    exact L_13 (d := d) (dh := dh) hI hJ hJ9 hA ha2 hq0 hq1 hq2 hq3 hq4 hq5 hg_e1 hr_e1 hg_f0 hg_g0 hg_p0 hg_n0 hr_n0 hr_o0 hF hH hU hRt hr0 (fun _ h9 => absurd h9 (by omega)) hG K
  | succ k ih =>
    intro d dh c m m9 a2 e1 f0 g0 p0 n0 o0 Z hk hI hJ hJ9 ha2 hq0 hq1 hq2 hq3 hq4 hq5 hg_e1 hr_e1 hg_f0 hg_g0 hg_p0 hg_n0 hr_n0 hr_o0 hF hH hU hRt hr0 hG K
    rw [show dh + 3 * (k + 1) + 36 = (dh + 3 * k + 3) + 36 by omega] at hG
    rw [show d + 4 * (k + 1) + 36 = (d + 4 * k + 4) + 36 by omega]
    refine L_13 (d := d + 4 * k + 4) (dh := dh + 3 * k + 3) hI hJ hJ9 hA ha2 hq0 hq1 hq2 hq3 hq4 hq5 hg_e1 hr_e1 hg_f0 hg_g0 hg_p0 hg_n0 hr_n0 hr_o0 hF hH hU hRt hr0 (fun {d9 c m m9 e1 f0 g0 p0 n0 o0 Z} h1 h2 hI hJ hJ9 ha2 hq0 hq1 hq2 hq3 hq4 hq5 hg_e1 hr_e1 hg_f0 hg_g0 hg_p0 hg_n0 hr_n0 hr_o0 hF hH hU hRt hr0 hG K => ?_) hG K
    rw [show dh + 3 * k + 3 + 33 = dh + 3 * k + 36 by omega] at hG
    have r := ih (d9 - 4 * k - 4) dh c m m9 (a2 + 1) e1 f0 g0 p0 n0 o0 Z (by omega) hI hJ hJ9 ha2 hq0 hq1 hq2 hq3 hq4 hq5 hg_e1 hr_e1 hg_f0 hg_g0 hg_p0 hg_n0 hr_n0 hr_o0 hF hH hU hRt hr0 hG K
    rw [show d9 - 4 * k - 4 + 4 * k + 36 = d9 + 32 by omega] at r
    exact r
set_option maxRecDepth 100000 in
set_option maxHeartbeats 4000000 in
theorem L_13c {sc : List Int32} {e eg : Int} {d dh u ug P Q P2 Q2 A : Nat} {c m m9 : ME} {a2 e1 f0 g0 p0 n0 o0 : Int} {F H : Int → Int} {Z : AR → Prop} (hI : Iv u e P2 Q2 c) (hJ : Iv ug eg P Q m) (hJ9 : Iv ug eg P Q m9) (hA : A = 13 ∨ A = 25) (ha2 : 0 ≤ a2 ∧ a2 ≤ 6) (hq0 : (f0 = 0)) (hq1 : (g0 = (-1))) (hq2 : (o0 = a2)) (hq3 : (n0 ≤ p0)) (hq4 : (p0 ≤ e1)) (hq5 : (e1 ≤ 150)) (hg_e1 : m 1 1 = e1) (hr_e1 : c 41 3 = e1) (hg_f0 : m 1 4 = f0) (hg_g0 : m 1 5 = g0) (hg_p0 : m 1 2 = p0) (hg_n0 : m (A + 7) 5 = n0) (hr_n0 : c 41 29 = n0) (hr_o0 : c 41 7 = o0) (hF : ∀ j : Int, m 2 j = F j) (hH : ∀ j : Int, c 43 j = H j) (hU : Ub F H) (hRt : Rt m c) (hr0 : Ce n0 (m (A + 9)) (c 50) (c 51)) (hG : Wp sc (dh + 54) 13 0 [(0, .ref (A + 7)), (1, .ref 1), (2, vi a2)] [] (Wd P Q P P m) 0 0 (fun q => q = (.inl (none), Wd P Q P P m9, 0, 0))) (K : ∀ (c2 : ME), Iv u e P2 Q2 c2 → (∀ (a : Nat) (j : Int), ¬ ((a = 41 ∧ j = 4) ∨ (a = 41 ∧ j = 5) ∨ (a = 41 ∧ j = 6) ∨ (a = 41 ∧ j = 7) ∨ (a = 41 ∧ j = 29) ∨ a = 50 ∨ a = 51) → c2 a j = c a j) → (Rt m9 c2) → ((m9 1 4 < 0) ∨ (m9 1 4 > 0) ∨ (m9 (A + 7) 5 = c2 41 29 ∧ c2 41 29 + p0 ≤ m9 1 2 + n0 ∧ m9 1 2 ≤ e1 ∧ m9 1 2 ≥ p0)) → ((c2 41 7 = a2)) → (m9 1 4 = 0 → Ce (c2 41 29) (m9 (A + 9)) (c2 50) (c2 51)) → Z (.inl (none), Wd P2 Q2 P2 P2 c2, 0, 0)) : Wp sc (d + 60) 174 0 [(0, .ref 41)] [] (Wd P2 Q2 P2 P2 c) 0 0 Z := by
  rw [show dh + 54 = dh + 3 * 6 + 36 by omega] at hG
  rw [show d + 60 = d + 4 * 6 + 36 by omega]
  exact L_13_n hA 6 d dh c m m9 a2 e1 f0 g0 p0 n0 o0 Z (by omega) hI hJ hJ9 ha2 hq0 hq1 hq2 hq3 hq4 hq5 hg_e1 hr_e1 hg_f0 hg_g0 hg_p0 hg_n0 hr_n0 hr_o0 hF hH hU hRt hr0 hG K

set_option maxRecDepth 100000 in
set_option maxHeartbeats 4000000 in
theorem L_85 {sc : List Int32} {d dh P Q P2 Q2 : Nat} {c m m9 : ME} {a1 yg t9 : Int} {F H : Int → Int} {Z : AR → Prop} (hI : Iv 0 (-1) P2 Q2 c) (hJ : Iv 0 (-1) P Q m) (hJ9 : Iv 0 (-1) P Q m9) (ha1 : (-2147483648) ≤ a1 ∧ a1 ≤ 2147483647) (hyg : (-2147483648) ≤ yg ∧ yg ≤ 2147483647) (hq0 : (a1 ≥ 0 ∧ a1 ≤ t9 ∧ a1 ≤ 150)) (hg_t9 : m 1 3 = t9) (hr_t9 : c 41 2 = t9) (hF : ∀ j : Int, m 2 j = F j) (hH : ∀ j : Int, c 43 j = H j) (hU : Ub F H) (hG : Wp sc (dh + 62) 85 0 [(0, .ref 0), (1, vi a1)] [] (Wd P Q P P m) 0 0 (fun q => q = (.inl (some (vi yg)), Wd P Q P P m9, 0, 0))) (K : ∀ (c2 : ME) (y : Int), Iv 0 (-1) P2 Q2 c2 → (∀ (a : Nat) (j : Int), ¬ ((a = 41 ∧ j = 0) ∨ a = 42 ∨ (a = 41 ∧ j = 2) ∨ (a = 41 ∧ j = 3) ∨ (a = 41 ∧ j = 4) ∨ (a = 41 ∧ j = 5) ∨ (a = 41 ∧ j = 6) ∨ (a = 41 ∧ j = 7) ∨ (a = 41 ∧ j = 8) ∨ (a = 41 ∧ j = 29) ∨ (a = 41 ∧ j = 30) ∨ a = 50 ∨ a = 51 ∨ a = 52 ∨ a = 53) → c2 a j = c a j) → (-2147483648) ≤ y ∧ y ≤ 2147483647 → ((y = yg)) → ((c2 41 2 = 0)) → ((c2 41 8 = m9 1 5)) → ((c2 41 0 = 0)) → Z (.inl (some (vi y)), Wd P2 Q2 P2 P2 c2, 0, 0)) : Wp sc (d + 66) 177 0 [(0, .ref 41), (1, vi a1)] [] (Wd P2 Q2 P2 P2 c) 0 0 Z := by
  have hP := iv_P hJ
  have hQ := iv_Q hJ
  have h_1 := ir_1_3 hJ
  have h_2 := ir_41_2 hI
  refine gh hG (q_aload_n c_85_0 rfl (q_iload_n c_85_1 rfl (v_sip c_85_2 (by decide) (v_cv c_85_5 km_7_81 rfl rfl (Nat.le_of_ble_eq_true rfl) ⟨⟨rfl, rfl⟩, Nat.le_of_ble_eq_true rfl, rfl⟩ (Nat.le_of_ble_eq_true rfl) (Nat.le_of_ble_eq_true rfl) (q_aload_n c_82_0 rfl (q_iload_n c_82_1 rfl (q_iconst c_82_2 ?_)))))))
  refine q_iload_n c_82_3 rfl (q_aload_n c_82_4 rfl (v_gr (t := 1) c_82_5 kf_7_10 rfl (Nat.le_of_ble_eq_true rfl) rfl (v_gi (z := 3) (v := t9) c_82_8 kf_7_77 rfl (Nat.le_of_ble_eq_true rfl) rfl rfl (hg_t9) (v_minx c_82_11 rfl (by omega) (Nat.le_of_ble_eq_true rfl) ⟨by omega, by omega, by omega, by omega⟩ (fun y_3 hy_3 => (q_call c_82_14 rfl rfl rfl (q_iload_n c_80_0 rfl (q_iload_n c_80_1 rfl ?_))))))))
  refine v_ic_lt_f (t := 14) c_80_2 rfl ⟨by decide, by first | exact q_d12bc8d2a hq0 | omega, ha1.2⟩ (q_iload_n c_80_5 rfl (q_iload_n c_80_6 rfl (v_ic_gt_f (t := 14) c_80_7 rfl (by omega) (q_iconst c_80_10 (q_goto (t := 15) c_80_11 rfl (v_zret c_80_15 rfl (by decide) (bk_inl ?_)))))))
  refine v_cv c_82_17 km_7_161 rfl rfl (Nat.le_of_ble_eq_true rfl) ⟨⟨rfl, rfl⟩, Nat.le_of_ble_eq_true rfl, rfl⟩ (Nat.le_of_ble_eq_true rfl) (Nat.le_of_ble_eq_true rfl) (q_iload_n c_81_0 rfl (v_if_ne_t (t := 25) c_81_1 rfl (by decide) (q_vret rfl rfl (bk_inl (q_aload_n c_82_20 rfl (v_gr (t := 1) c_82_21 kf_7_10 rfl (Nat.le_of_ble_eq_true rfl) rfl (q_iload_n c_82_24 rfl ?_)))))))
  refine v_cv c_82_25 km_7_348 rfl rfl (Nat.le_of_ble_eq_true rfl) ⟨⟨rfl, rfl⟩, Nat.le_of_ble_eq_true rfl, rfl⟩ (Nat.le_of_ble_eq_true rfl) (Nat.le_of_ble_eq_true rfl) (q_aload_n c_74_0 rfl (q_iload_n c_74_1 rfl (q_aload_n c_74_2 rfl (v_gi (z := 3) (v := t9) c_74_3 kf_5_19 rfl (Nat.le_of_ble_eq_true rfl) rfl rfl (hg_t9) (v_minx c_74_6 rfl (by omega) (Nat.le_of_ble_eq_true rfl) ⟨by omega, by omega, by omega, by omega⟩ (fun y_4 hy_4 => (v_pi (z := 1) c_74_9 kf_5_32 rfl (Nat.le_of_ble_eq_true rfl) rfl rfl rfl (by decide) (q_aload_n c_74_12 rfl ?_))))))))
  refine q_iconst c_74_13 (v_pi (z := 2) c_74_14 kf_5_35 rfl (Nat.le_of_ble_eq_true rfl) rfl rfl rfl (by decide) (q_aload_n c_74_17 rfl (q_iconst c_74_18 (v_pi (z := 3) c_74_19 kf_5_19 rfl (Nat.le_of_ble_eq_true rfl) rfl rfl rfl (by decide) (q_aload_n c_74_22 rfl (q_iconst c_74_23 (v_pi (z := 4) c_74_24 kf_5_38 rfl (Nat.le_of_ble_eq_true rfl) rfl rfl rfl (by decide) ?_)))))))
  refine q_aload_n c_74_27 rfl (q_iconst c_74_28 (v_pi (z := 5) c_74_29 kf_5_15 rfl (Nat.le_of_ble_eq_true rfl) rfl rfl rfl (by decide) (q_vret rfl rfl (bk_inl (q_vret rfl rfl (bk_inl (q_aload_n c_85_8 rfl ?_)))))))
  refine v_gr (t := P) c_85_9 kf_7_50 rfl (Nat.le_of_ble_eq_true rfl) rfl (v_gr (t := (P + 7)) c_85_12 kf_7_109 (ck_p0 hP) (a68z hP) rfl (q_aload_n c_85_15 rfl (v_gr (t := 1) c_85_16 kf_7_10 rfl (Nat.le_of_ble_eq_true rfl) rfl (v_cv c_85_19 km_7_113 rfl (ck_p7 hP) (a68 hP rfl) ⟨⟨rfl, rfl⟩, by decide, rfl⟩ (Nat.le_of_ble_eq_true rfl) (Nat.le_of_ble_eq_true rfl) (q_aload_n c_17_0 rfl (q_iconst c_17_1 (v_pi (z := 5) c_17_2 kf_0_28 (ck_p7 hP) (a68 hP rfl) rfl rfl rfl (by decide) ?_)))))))
  refine q_aload_n c_17_5 rfl (q_aload_n c_17_6 rfl (q_iconst c_17_7 ?_))
  have hI_5 := iw_1_1 (v := y_4) hJ ⟨by omega, by omega⟩
  have hI_6 := iw_1_2 (v := 0) hI_5 ⟨by decide, by decide⟩
  have hI_7 := iw_1_3 (v := 0) hI_6 ⟨by decide, by decide⟩
  have hI_8 := iw_1_4 (v := 0) hI_7 ⟨by decide, by decide⟩
  have hI_9 := iw_1_5 (v := (-1)) hI_8 ⟨by decide, by decide⟩
  have hI_10 := iw_p7_5 (v := 0) hI_9 hP ⟨by decide, by decide⟩
  refine v_cv c_17_8 km_0_31 rfl (ck_p7 hP) (a68 hP rfl) ⟨⟨rfl, rfl⟩, by decide, rfl⟩ (Nat.le_of_ble_eq_true rfl) (Nat.le_of_ble_eq_true rfl) (fn_of (r_13 (a2 := 0) hI_10 hP (show 0 ≤ 0 ∧ 0 ≤ 6 from ⟨by decide, by decide⟩) (fun c_11 hI_12 hF_13 => ?_)))
  intro hG_14
  refine bk_inl (q_aload_n c_17_11 rfl (v_cv c_17_12 km_0_35 rfl rfl (Nat.le_of_ble_eq_true rfl) ⟨⟨rfl, rfl⟩, Nat.le_of_ble_eq_true rfl, rfl⟩ (Nat.le_of_ble_eq_true rfl) (Nat.le_of_ble_eq_true rfl) (q_aload_n c_16_0 rfl (v_cv c_16_1 km_5_49 rfl rfl (Nat.le_of_ble_eq_true rfl) ⟨⟨rfl, rfl⟩, Nat.le_of_ble_eq_true rfl, rfl⟩ (Nat.le_of_ble_eq_true rfl) (Nat.le_of_ble_eq_true rfl) (q_aload_n c_15_0 rfl (v_cv c_15_1 km_5_45 rfl rfl (Nat.le_of_ble_eq_true rfl) ⟨⟨rfl, rfl⟩, Nat.le_of_ble_eq_true rfl, rfl⟩ (Nat.le_of_ble_eq_true rfl) (Nat.le_of_ble_eq_true rfl) (q_aload_n c_2_0 rfl ?_)))))))
  have h_15 := ir_1_4 hI_12
  refine v_gi (z := 4) (v := c_11 1 4) c_2_1 kf_5_38 rfl (Nat.le_of_ble_eq_true rfl) rfl rfl rfl ?_
  by_cases h_16 : c_11 1 4 ≠ 0
  · refine v_if_ne_t (t := 11) c_2_4 rfl ⟨h_16, ⟨(Int.le_trans (by decide) h_15.1), (Int.le_trans h_15.2 (by decide))⟩, by decide, by decide⟩ (q_iconst c_2_11 (v_zret c_2_12 rfl (by decide) (bk_inl (v_if_eq_t (t := 22) c_15_4 rfl (by decide) (q_iconst c_15_22 (v_zret c_15_23 rfl (by decide) (bk_inl ?_)))))))
    refine v_if_eq_t (t := 16) c_16_4 rfl (by decide) (q_vret rfl rfl (bk_inl (q_aload_n c_17_15 rfl (v_cv c_17_16 km_0_40 rfl rfl (Nat.le_of_ble_eq_true rfl) ⟨⟨rfl, rfl⟩, Nat.le_of_ble_eq_true rfl, rfl⟩ (Nat.le_of_ble_eq_true rfl) (Nat.le_of_ble_eq_true rfl) (q_aload_n c_2_0 rfl (v_gi (z := 4) (v := c_11 1 4) c_2_1 kf_5_38 rfl (Nat.le_of_ble_eq_true rfl) rfl rfl rfl (v_if_ne_t (t := 11) c_2_4 rfl ⟨by first | exact q_646bc4652 h_15 h_16 | omega, ⟨(Int.le_trans (by decide) h_15.1), (Int.le_trans h_15.2 (by decide))⟩, by decide, by decide⟩ ?_)))))))
    refine q_iconst c_2_11 (v_zret c_2_12 rfl (by decide) (bk_inl (v_if_eq_t (t := 46) c_17_19 rfl (by decide) (q_vret rfl rfl (bk_inl (q_aload_n c_85_22 rfl (q_iconst c_85_23 ?_)))))))
    refine v_cv c_85_24 km_7_105 rfl rfl (Nat.le_of_ble_eq_true rfl) ⟨⟨rfl, rfl⟩, Nat.le_of_ble_eq_true rfl, rfl⟩ (Nat.le_of_ble_eq_true rfl) (Nat.le_of_ble_eq_true rfl) (q_aload_n c_83_0 rfl (v_gr (t := 1) c_83_1 kf_7_10 rfl (Nat.le_of_ble_eq_true rfl) rfl (v_cv c_83_4 km_7_89 rfl rfl (Nat.le_of_ble_eq_true rfl) ⟨⟨rfl, rfl⟩, Nat.le_of_ble_eq_true rfl, rfl⟩ (Nat.le_of_ble_eq_true rfl) (Nat.le_of_ble_eq_true rfl) (q_aload_n c_2_0 rfl (v_gi (z := 4) (v := c_11 1 4) c_2_1 kf_5_38 rfl (Nat.le_of_ble_eq_true rfl) rfl rfl rfl (v_if_ne_t (t := 11) c_2_4 rfl ⟨by first | exact q_646bc4652 h_15 h_16 | omega, ⟨(Int.le_trans (by decide) h_15.1), (Int.le_trans h_15.2 (by decide))⟩, by decide, by decide⟩ (q_iconst c_2_11 ?_)))))))
    refine v_zret c_2_12 rfl (by decide) (bk_inl (v_if_eq_t (t := 14) c_83_7 rfl (by decide) (q_aload_n c_83_14 rfl (v_gr (t := 1) c_83_15 kf_7_10 rfl (Nat.le_of_ble_eq_true rfl) rfl (v_gi (z := 4) (v := c_11 1 4) c_83_18 kf_7_351 rfl (Nat.le_of_ble_eq_true rfl) rfl rfl rfl (v_bip c_83_21 (by decide) (v_isub (v := c_11 1 4 - 10) c_83_23 rfl ?_)))))))
    refine q_iret c_83_24 rfl (bk_inl (q_iret c_85_27 rfl ?_))
    intro hE_17
    have h_18 : yg = c_11 1 4 - 10 := (vi_inj ⟨by omega, by omega⟩ ⟨by omega, by omega⟩ (Option.some.inj (Sum.inl.inj (Prod.mk.inj hE_17).1))).symm
    have hW : Wd P Q P P c_11 = Wd P Q P P m9 := (Prod.mk.inj (Prod.mk.inj hE_17).2).1
    have h_19 := ir_1_5 hI_12
    have h_20 := ir_1_5 hJ9
    have h_21 : m9 1 5 = c_11 1 5 := wd_fv (z := 5) 5 rfl hW rfl rfl rfl rfl (by decide) rfl ⟨(Int.le_trans (by decide) h_19.1), (Int.le_trans h_19.2 (by decide))⟩ ⟨(Int.le_trans (by decide) h_20.1), (Int.le_trans h_20.2 (by decide))⟩
    refine q_aload_n c_177_0 rfl (q_iconst c_177_1 (v_pi (z := 0) c_177_2 kf_8_3 rfl (Nat.le_of_ble_eq_true rfl) rfl rfl rfl (by decide) (q_aload_n c_177_5 rfl (q_iload_n c_177_6 rfl (v_if_lt_f (t := 29) c_177_7 rfl ⟨by decide, by first | exact q_d12bc8d2a hq0 | omega, ha1.2⟩ (q_iload_n c_177_10 rfl (q_aload_n c_177_11 rfl ?_)))))))
    refine v_gi (z := 2) (v := t9) c_177_12 kf_8_99 rfl (Nat.le_of_ble_eq_true rfl) rfl rfl ((up_n (by decide)).trans (hr_t9)) (v_ic_gt_f (t := 29) c_177_15 rfl ⟨ha1.1, by first | exact q_5ade8dffc hq0 | omega, (Int.le_trans (rg_eq hg_t9 h_1).2 (by decide))⟩ (q_iload_n c_177_18 rfl (v_sip c_177_19 (by decide) (v_ic_gt_f (t := 29) c_177_22 rfl ⟨ha1.1, by first | exact q_c25acb4df hq0 | omega, by decide⟩ (q_iconst c_177_25 (q_goto (t := 30) c_177_26 rfl (q_iconst c_177_30 ?_)))))))
    refine q_iconst c_177_31 (v_cv c_177_32 km_8_203 rfl rfl (Nat.le_of_ble_eq_true rfl) ⟨⟨rfl, rfl⟩, Nat.le_of_ble_eq_true rfl, rfl⟩ (Nat.le_of_ble_eq_true rfl) (Nat.le_of_ble_eq_true rfl) (q_iload_n c_145_0 rfl (v_if_ne_t (t := 26) c_145_1 rfl (by decide) (q_aload_n c_145_26 rfl (v_gi (z := 0) (v := 0) c_145_27 kf_8_3 rfl (Nat.le_of_ble_eq_true rfl) rfl rfl (up_e rfl) (v_if_ne_f (t := 37) c_145_30 rfl (by decide) (q_iconst c_145_33 ?_)))))))
    refine q_goto (t := 38) c_145_34 rfl (v_zret c_145_38 rfl (by decide) (bk_inl (v_if_ne_t (t := 40) c_177_35 rfl (by decide) (q_aload_n c_177_40 rfl (q_iload_n c_177_41 rfl ?_)))))
    have hI_22 := iw_41_0 (v := 0) hI ⟨by decide, by decide⟩
    refine v_cv c_177_42 km_8_207 rfl rfl (Nat.le_of_ble_eq_true rfl) ⟨⟨rfl, rfl⟩, Nat.le_of_ble_eq_true rfl, rfl⟩ (Nat.le_of_ble_eq_true rfl) (Nat.le_of_ble_eq_true rfl) (s_163 (a1 := a1) hI_22 (show 0 ≤ a1 ∧ a1 ≤ 600 from ⟨by first | exact q_d12bc8d2a hq0 | omega, by first | exact q_f37fc148c hq0 | omega⟩) (fun c_23 hI_24 hF_25 h_26 => (bk_inl ?_)))
    have h_27 := ir_41_2 hI_24
    have h_28 := ir_41_3 hI_24
    have h_29 := ir_41_4 hI_24
    have h_30 := ir_41_5 hI_24
    have h_31 := ir_41_7 hI_24
    refine q_aload_n c_177_45 rfl (q_iconst c_177_46 (v_pi (z := 29) c_177_47 kf_8_236 rfl (Nat.le_of_ble_eq_true rfl) rfl rfl rfl (by decide) (q_aload_n c_177_50 rfl ?_)))
    have hI_32 := iw_41_29 (v := 0) hI_24 ⟨by decide, by decide⟩
    have h_33 : (up c_23 41 29 0) 41 5 = c_23 41 5 := (up_n (by decide))
    have h_34 : (up c_23 41 29 0) 41 3 = c_23 41 3 := (up_n (by decide))
    have h_35 : (up c_23 41 29 0) 41 4 = c_23 41 4 := (up_n (by decide))
    have h_36 : (up c_23 41 29 0) 41 29 = 0 := (up_e rfl)
    have h_37 : (up c_23 41 29 0) 41 7 = c_23 41 7 := (up_n (by decide))
    obtain ⟨hW_38, hN_39⟩ := nw_zero (c := up c_23 41 29 0) ((up_e rfl))
    refine v_cv c_177_51 km_8_251 rfl rfl (Nat.le_of_ble_eq_true rfl) ⟨⟨rfl, rfl⟩, Nat.le_of_ble_eq_true rfl, rfl⟩ (Nat.le_of_ble_eq_true rfl) (Nat.le_of_ble_eq_true rfl) (fn_of (r_174 (o := 0) hI_32 (show 0 ≤ 0 ∧ 0 ≤ 6 from by omega) hW_38 (by first | exact q_6d0a553af h_26 h_30 | omega) (by first | exact q_aa9195485 h_26 h_28 | omega) (by first | exact q_347fb3ff8 h_26 hq0 | omega) (by first | exact q_1dc94a4e9 h_29 | omega) (by first | exact q_c5aecebbc h_26 h_31 | omega) (fun c_40 hI_41 hF_42 hW_43 h_44 h_45 h_46 h_47 h_48 => ?_)))
    intro hG_53
    refine bk_inl ?_
    have h_49 := ir_41_4 hI_41
    have h_50 := ir_41_7 hI_41
    have h_51 := ir_41_29 hI_41
    have h_52 := ir_41_5 hI_41
    have hI_54 := iw_41_29 (v := 0) hI_24 ⟨by decide, by decide⟩
    have h_55 : (up (up (up (up (up (up m 1 1 y_4) 1 2 0) 1 3 0) 1 4 0) 1 5 (-1)) (P + 7) 5 0) 1 4 = 0 := ((up_c (pn hP rfl rfl)).trans ((up_n (by decide)).trans (up_e rfl)))
    have h_56 : (up (up (up (up (up (up m 1 1 y_4) 1 2 0) 1 3 0) 1 4 0) 1 5 (-1)) (P + 7) 5 0) 1 2 = 0 := ((up_c (pn hP rfl rfl)).trans ((up_n (by decide)).trans ((up_n (by decide)).trans ((up_n (by decide)).trans (up_e rfl)))))
    have h_57 : (up (up (up (up (up (up m 1 1 y_4) 1 2 0) 1 3 0) 1 4 0) 1 5 (-1)) (P + 7) 5 0) 1 5 = (-1) := ((up_c (pn hP rfl rfl)).trans (up_e rfl))
    have h_58 : (up c_23 41 29 0) 41 5 = c_23 41 5 := (up_n (by decide))
    have h_59 : (up c_23 41 29 0) 41 4 = c_23 41 4 := (up_n (by decide))
    have h_60 := ir_41_6 hI
    have kn_61 : Hid (c_23 41 6 = c 41 6) := (hF_25 41 6 qn_eb0d473e8).trans (up_n (by decide))
    have h_62 : (up c_23 41 29 0) 41 6 = c 41 6 := ((up_n (by decide)).trans (hid kn_61))
    have hA_63 : Ce 0 ((up (up (up (up (up (up m 1 1 y_4) 1 2 0) 1 3 0) 1 4 0) 1 5 (-1)) (P + 7) 5 0) (P + 9)) ((up c_23 41 29 0) 50) ((up c_23 41 29 0) 51) := ce_z (by omega)
    have hR_64 : Rt c_11 c_40 := gh hG_53 (L_13c (c := (up c_23 41 29 0)) (m := up (up (up (up (up (up m 1 1 y_4) 1 2 0) 1 3 0) 1 4 0) 1 5 (-1)) (P + 7) 5 0) (a2 := 0) (e1 := y_4) (f0 := 0) (g0 := (-1)) (p0 := 0) (n0 := 0) (o0 := c_23 41 7) (F := F) (H := H) hI_54 hI_10 hI_12 hP (show 0 ≤ 0 ∧ 0 ≤ 6 from by omega) (by omega) (by omega) (by omega) (by omega) (by omega) (by omega) (((up_c (pn hP rfl rfl)).trans ((up_n (by decide)).trans ((up_n (by decide)).trans ((up_n (by decide)).trans ((up_n (by decide)).trans (up_e rfl))))))) (((show _ = c_23 41 3 from (up_n (by decide))).trans (by omega))) (((up_c (pn hP rfl rfl)).trans ((up_n (by decide)).trans (up_e rfl)))) (((up_c (pn hP rfl rfl)).trans (up_e rfl))) (((up_c (pn hP rfl rfl)).trans ((up_n (by decide)).trans ((up_n (by decide)).trans ((up_n (by decide)).trans (up_e rfl)))))) ((up_e rfl)) ((up_e rfl)) ((up_n (by decide))) (fun j => ((up_c (pn hP rfl rfl)).trans ((up_c (nn rfl)).trans ((up_c (nn rfl)).trans ((up_c (nn rfl)).trans ((up_c (nn rfl)).trans (up_c (nn rfl))))))).trans (hF j)) (fun j => ((up_c (nn rfl)).trans ((hF_25 43 j qn_78d42cb5c).trans (up_c (nn rfl)))).trans (hH j)) hU (rt_i1 ⟨by first | assumption | omega, by first | exact q_6d0a553af h_26 h_30 | omega, by first | exact q_a7ddc6b3b h_26 h_29 | omega, by first | assumption | omega⟩) (ce_le hA_63 (by omega)) hG_14 (fun c8 hI8 hF8 hR8 h_65 h_66 h_67 => fun e8 => rt_wd hR8 (Prod.mk.inj (Prod.mk.inj e8).2).1 hI8 hI_41))
    refine q_aload_n c_177_54 rfl (v_cv c_177_55 km_8_131 rfl rfl (Nat.le_of_ble_eq_true rfl) ⟨⟨rfl, rfl⟩, Nat.le_of_ble_eq_true rfl, rfl⟩ (Nat.le_of_ble_eq_true rfl) (Nat.le_of_ble_eq_true rfl) (q_aload_n c_152_0 rfl ?_))
    have h_68 := ir_1_2 hI_12
    have h_69 := ir_41_6 hI_41
    have h_70 := rt_bad hR_64 (by first | exact q_646bc4652 h_15 h_16 | omega)
    have hrb_hR_64 := rt_bad hR_64 (by first | exact q_f7b7d720f h_70 | omega)
    refine v_gi (z := 5) (v := c_11 1 5) c_152_1 kf_8_102 rfl (Nat.le_of_ble_eq_true rfl) rfl rfl hrb_hR_64.2.1 (q_iconst c_152_4 (v_ic_ne_t (t := 12) c_152_5 rfl ⟨by first | exact q_0f78863d3 h_70 | omega, ⟨(Int.le_trans (by decide) h_19.1), (Int.le_trans h_19.2 (by decide))⟩, by decide, by decide⟩ (q_iconst c_152_12 (v_zret c_152_13 rfl (by decide) (bk_inl (v_if_eq_t (t := 77) c_177_58 rfl (by decide) (q_aload_n c_177_77 rfl ?_)))))))
    refine q_iconst c_177_78 (v_cv c_177_79 km_8_232 rfl rfl (Nat.le_of_ble_eq_true rfl) ⟨⟨rfl, rfl⟩, Nat.le_of_ble_eq_true rfl, rfl⟩ (Nat.le_of_ble_eq_true rfl) (Nat.le_of_ble_eq_true rfl) (q_aload_n c_164_0 rfl (q_aload_n c_164_1 rfl (v_gi (z := 5) (v := c_11 1 5) c_164_2 kf_8_102 rfl (Nat.le_of_ble_eq_true rfl) rfl rfl hrb_hR_64.2.1 (v_pi (z := 8) c_164_5 kf_8_17 rfl (Nat.le_of_ble_eq_true rfl) rfl rfl rfl (by decide) (q_aload_n c_164_8 rfl (v_cv c_164_9 km_8_131 rfl rfl (Nat.le_of_ble_eq_true rfl) ⟨⟨rfl, rfl⟩, Nat.le_of_ble_eq_true rfl, rfl⟩ (Nat.le_of_ble_eq_true rfl) (Nat.le_of_ble_eq_true rfl) ?_)))))))
    refine q_aload_n c_152_0 rfl (v_gi (z := 5) (v := c_11 1 5) c_152_1 kf_8_102 rfl (Nat.le_of_ble_eq_true rfl) rfl rfl (((up_n (by decide))).trans (hrb_hR_64.2.1)) (q_iconst c_152_4 (v_ic_ne_t (t := 12) c_152_5 rfl ⟨by first | exact q_0f78863d3 h_70 | omega, ⟨(Int.le_trans (by decide) h_19.1), (Int.le_trans h_19.2 (by decide))⟩, by decide, by decide⟩ (q_iconst c_152_12 (v_zret c_152_13 rfl (by decide) (bk_inl (v_if_eq_t (t := 19) c_164_12 rfl (by decide) ?_)))))))
    refine q_aload_n c_164_19 rfl (v_gi (z := 6) (v := c_11 1 4) c_164_20 kf_8_105 rfl (Nat.le_of_ble_eq_true rfl) rfl rfl (((up_n (by decide))).trans (hrb_hR_64.2.2.2)) (v_bip c_164_23 (by decide) (v_isub (v := c_11 1 4 - 10) c_164_25 rfl (q_iret c_164_26 rfl (bk_inl (q_istore_n c_177_82 (Nat.le_of_ble_eq_true rfl) (q_aload_n c_177_83 rfl ?_)))))))
    refine v_gi (z := 5) (v := c_11 1 5) c_177_84 kf_8_102 rfl (Nat.le_of_ble_eq_true rfl) rfl rfl (((up_n (by decide))).trans (hrb_hR_64.2.1)) (q_iconst c_177_87 (v_ic_eq_f (t := 93) c_177_88 rfl ⟨by first | exact q_0f78863d3 h_70 | omega, ⟨(Int.le_trans (by decide) h_19.1), (Int.le_trans h_19.2 (by decide))⟩, by decide, by decide⟩ (q_iload_n c_177_91 rfl (q_iret c_177_92 rfl ?_))))
    have hI_71 := iw_41_8 (v := c_11 1 5) hI_41 ⟨h_19.1, (Int.le_trans h_19.2 (by decide))⟩
    have kn_72 : Hid (c_40 41 2 = c_23 41 2) := (hF_42 41 2 qn_6ef24e77f).trans (up_n (by decide))
    have h_73 : (up c_40 41 8 (c_11 1 5)) 41 2 = c_23 41 2 := ((up_n (by decide)).trans (hid kn_72))
    have h_74 : (up c_40 41 8 (c_11 1 5)) 41 8 = c_11 1 5 := (up_e rfl)
    have kn_75 : Hid (c_23 41 0 = 0) := (hF_25 41 0 qn_18af663b8).trans (up_e rfl)
    have kn_76 : Hid (c_40 41 0 = 0) := (hF_42 41 0 qn_d0959c513).trans ((up_n (by decide)).trans (hid kn_75))
    have h_77 : (up c_40 41 8 (c_11 1 5)) 41 0 = 0 := ((up_n (by decide)).trans (hid kn_76))
    exact K (up c_40 41 8 (c_11 1 5)) (c_11 1 4 - 10) hI_71 (fun a j hm => (up_b (Decidable.or_iff_not_imp_left.mpr (fun h1 h2 => hm (Or.inr (Or.inr (Or.inr (Or.inr (Or.inr (Or.inr (Or.inr (Or.inr (Or.inl ⟨Decidable.not_not.mp h1, h2⟩)))))))))))).trans ((hF_42 a j (qv_64dbd55b6 hm)).trans ((up_b (Decidable.or_iff_not_imp_left.mpr (fun h1 h2 => hm (Or.inr (Or.inr (Or.inr (Or.inr (Or.inr (Or.inr (Or.inr (Or.inr (Or.inr (Or.inl ⟨Decidable.not_not.mp h1, h2⟩))))))))))))).trans ((hF_25 a j (qv_514f8c9e5 hm)).trans (up_b (Decidable.or_iff_not_imp_left.mpr (fun h1 h2 => hm (Or.inl ⟨Decidable.not_not.mp h1, h2⟩)))))))) ⟨by omega, by omega⟩ (by first | exact q_e5f29e5a1 h_18 | omega) (by first | exact q_59baff7b3 h_26 h_27 | omega) (by first | exact q_88dc5fb99 h_21 | omega) (by first | assumption | omega)
  · refine v_if_ne_f (t := 11) c_2_4 rfl (Decidable.not_not.mp h_16) (q_iconst c_2_7 (q_goto (t := 12) c_2_8 rfl (v_zret c_2_12 rfl (by decide) (bk_inl (v_if_eq_f (t := 22) c_15_4 rfl (by decide) (q_aload_n c_15_7 rfl ?_))))))
    have kn_78 : Hid (c_11 1 1 = y_4) := (hF_13 1 1 (qn_5c4bc69a3 hP)).trans ((up_c (pn hP rfl rfl)).trans ((up_n (by decide)).trans ((up_n (by decide)).trans ((up_n (by decide)).trans ((up_n (by decide)).trans (up_e rfl))))))
    have h_79 := ir_1_2 hI_12
    have h_80 : -2147483648 ≤ (F (c_11 1 2)) ∧ (F (c_11 1 2)) ≤ 2147483647 := by rw [← hF (c_11 1 2)]; exact ir_2 hJ (c_11 1 2)
    have h_81 := nx_bd (b := F) (e := y_4) (a := c_11 1 2)
    have h_82 : -2147483648 ≤ (F (nx F y_4 (c_11 1 2))) ∧ (F (nx F y_4 (c_11 1 2))) ≤ 2147483647 := by rw [← hF (nx F y_4 (c_11 1 2))]; exact ir_2 hJ (nx F y_4 (c_11 1 2))
    have h_83 := nx_n (b := F) (e := y_4) (a := c_11 1 2)
    refine v_cv c_15_8 km_5_41 rfl rfl (Nat.le_of_ble_eq_true rfl) ⟨⟨rfl, rfl⟩, Nat.le_of_ble_eq_true rfl, rfl⟩ (Nat.le_of_ble_eq_true rfl) (Nat.le_of_ble_eq_true rfl) (f_3 (e1 := y_4) (a9 := c_11 1 2) (B := F) (r8 := (nx F y_4 (c_11 1 2))) hI_12 ((hid kn_78)) (rfl) (fun j => ((hF_13 2 j (qn_9af0f33f6 hP)).trans ((up_c (pn hP rfl rfl)).trans ((up_c (nn rfl)).trans ((up_c (nn rfl)).trans ((up_c (nn rfl)).trans ((up_c (nn rfl)).trans (up_c (nn rfl)))))))).trans (hF j)) rfl (fun c_84 hI_85 hF_86 hz_87 => (bk_inl (q_aload_n c_15_11 rfl ?_))))
    have kn_88 : Hid (c_84 1 1 = y_4) := (hF_86 1 1 (fun h => absurd h.2 (ni rfl))).trans (hid kn_78)
    refine v_gi (z := 1) (v := y_4) c_15_12 kf_5_32 rfl (Nat.le_of_ble_eq_true rfl) rfl rfl (hid kn_88) ?_
    by_cases h_89 : (nx F y_4 (c_11 1 2)) ≥ y_4
    · refine v_ic_ge_t (t := 22) c_15_15 rfl ⟨by first | (clear ha1 h_1 hg_t9 h_2 hr_t9 h_15 h_16 h_79 h_80 h_81 h_82 h_83; omega) | omega, h_89, by first | (clear ha1 h_1 hg_t9 h_2 hr_t9 h_15 h_16 h_80 h_82 h_83; omega) | omega⟩ (q_iconst c_15_22 (v_zret c_15_23 rfl (by decide) (bk_inl (v_if_eq_t (t := 16) c_16_4 rfl (by decide) (q_vret rfl rfl (bk_inl (q_aload_n c_17_15 rfl ?_)))))))
      refine v_cv c_17_16 km_0_40 rfl rfl (Nat.le_of_ble_eq_true rfl) ⟨⟨rfl, rfl⟩, Nat.le_of_ble_eq_true rfl, rfl⟩ (Nat.le_of_ble_eq_true rfl) (Nat.le_of_ble_eq_true rfl) (q_aload_n c_2_0 rfl ?_)
      have kn_90 : Hid (c_84 1 4 = c_11 1 4) := hF_86 1 4 (fun h => absurd h.2 (ni rfl))
      refine v_gi (z := 4) (v := c_11 1 4) c_2_1 kf_5_38 rfl (Nat.le_of_ble_eq_true rfl) rfl rfl (hid kn_90) (v_if_ne_f (t := 11) c_2_4 rfl (by first | exact q_163d1c5eb h_15 h_16 | omega) (q_iconst c_2_7 (q_goto (t := 12) c_2_8 rfl (v_zret c_2_12 rfl (by decide) (bk_inl (v_if_eq_f (t := 46) c_17_19 rfl (by decide) (q_aload_n c_17_22 rfl ?_)))))))
      refine v_gr (t := (P + 9)) c_17_23 kf_0_15 (ck_p7 hP) (a68 hP rfl) rfl (q_iconst c_17_26 (q_aload_n c_17_27 rfl (v_gr (t := (P + 8)) c_17_28 kf_0_9 (ck_p7 hP) (a68 hP rfl) rfl (q_iconst c_17_31 (v_sip c_17_32 (by decide) (v_cpy c_17_35 rfl (ck_p8 hP) (a68 hP rfl) (ck_p9 hP) (a68 hP rfl) rfl rfl (by omega) (Nat.le_of_ble_eq_true rfl) (by omega) (q_aload_n c_17_38 rfl ?_)))))))
      refine q_aload_n c_17_39 rfl ?_
      have h_91 := ir_p7_5 hI_12 hP
      have kn_92 : Hid (c_84 (P + 7) 5 = c_11 (P + 7) 5) := hF_86 (P + 7) 5 (fun h => absurd h.1 (np hP rfl rfl))
      refine v_gi (z := 5) (v := c_11 (P + 7) 5) c_17_40 kf_0_28 (ck_p7 hP) (a68 hP rfl) rfl rfl ((upc_c (by omega)).trans (hid kn_92)) (v_pi (z := 4) c_17_43 kf_0_24 (ck_p7 hP) (a68 hP rfl) rfl rfl rfl (by decide) (q_vret rfl rfl (bk_inl (q_aload_n c_85_22 rfl (q_iconst c_85_23 (v_cv c_85_24 km_7_105 rfl rfl (Nat.le_of_ble_eq_true rfl) ⟨⟨rfl, rfl⟩, Nat.le_of_ble_eq_true rfl, rfl⟩ (Nat.le_of_ble_eq_true rfl) (Nat.le_of_ble_eq_true rfl) (q_aload_n c_83_0 rfl ?_)))))))
      refine v_gr (t := 1) c_83_1 kf_7_10 rfl (Nat.le_of_ble_eq_true rfl) rfl (v_cv c_83_4 km_7_89 rfl rfl (Nat.le_of_ble_eq_true rfl) ⟨⟨rfl, rfl⟩, Nat.le_of_ble_eq_true rfl, rfl⟩ (Nat.le_of_ble_eq_true rfl) (Nat.le_of_ble_eq_true rfl) (q_aload_n c_2_0 rfl (v_gi (z := 4) (v := c_11 1 4) c_2_1 kf_5_38 rfl (Nat.le_of_ble_eq_true rfl) rfl rfl ((up_c (pn hP rfl rfl)).trans ((upc_c (by omega)).trans (hid kn_90))) (v_if_ne_f (t := 11) c_2_4 rfl (by first | exact q_163d1c5eb h_15 h_16 | omega) (q_iconst c_2_7 (q_goto (t := 12) c_2_8 rfl (v_zret c_2_12 rfl (by decide) ?_)))))))
      refine bk_inl (v_if_eq_f (t := 14) c_83_7 rfl (by decide) (q_iload_n c_83_10 rfl (q_goto (t := 24) c_83_11 rfl (q_iret c_83_24 rfl (bk_inl (q_iret c_85_27 rfl ?_))))))
      have hI_93 := cp_p9_p8 (n := 150) hI_85 hP
      have hI_94 := iw_p7_4 (v := c_11 (P + 7) 5) hI_93 hP ⟨by first | exact q_47cb9e6c6 h_91 | omega, by first | exact q_4ed2d8592 h_91 | omega⟩
      intro hE_95
      have h_96 : yg = 1 := (vi_inj ⟨by omega, by omega⟩ ⟨by omega, by omega⟩ (Option.some.inj (Sum.inl.inj (Prod.mk.inj hE_95).1))).symm
      have hW : Wd P Q P P (up (upc c_84 (P + 9) 0 (P + 8) 0 150) (P + 7) 4 (c_11 (P + 7) 5)) = Wd P Q P P m9 := (Prod.mk.inj (Prod.mk.inj hE_95).2).1
      have h_97 := ir_1_5 hI_12
      have kn_98 : Hid (c_84 1 5 = c_11 1 5) := hF_86 1 5 (fun h => absurd h.2 (ni rfl))
      have h_99 := ir_1_5 hJ9
      have h_100 : m9 1 5 = c_11 1 5 := wd_fv (z := 5) 5 rfl hW rfl rfl rfl rfl (by decide) ((up_c (pn hP rfl rfl)).trans ((upc_c (by omega)).trans (hid kn_98))) ⟨by first | exact q_a93a79546 h_97 | omega, by first | exact q_64fbdbf81 h_97 | omega⟩ ⟨(Int.le_trans (by decide) h_99.1), (Int.le_trans h_99.2 (by decide))⟩
      refine q_aload_n c_177_0 rfl (q_iconst c_177_1 (v_pi (z := 0) c_177_2 kf_8_3 rfl (Nat.le_of_ble_eq_true rfl) rfl rfl rfl (by decide) (q_aload_n c_177_5 rfl (q_iload_n c_177_6 rfl (v_if_lt_f (t := 29) c_177_7 rfl ⟨by decide, by first | exact q_d12bc8d2a hq0 | omega, ha1.2⟩ (q_iload_n c_177_10 rfl (q_aload_n c_177_11 rfl ?_)))))))
      refine v_gi (z := 2) (v := t9) c_177_12 kf_8_99 rfl (Nat.le_of_ble_eq_true rfl) rfl rfl ((up_n (by decide)).trans (hr_t9)) (v_ic_gt_f (t := 29) c_177_15 rfl ⟨ha1.1, by first | exact q_5ade8dffc hq0 | omega, (Int.le_trans (rg_eq hg_t9 h_1).2 (by decide))⟩ (q_iload_n c_177_18 rfl (v_sip c_177_19 (by decide) (v_ic_gt_f (t := 29) c_177_22 rfl ⟨ha1.1, by first | exact q_c25acb4df hq0 | omega, by decide⟩ (q_iconst c_177_25 (q_goto (t := 30) c_177_26 rfl (q_iconst c_177_30 ?_)))))))
      refine q_iconst c_177_31 (v_cv c_177_32 km_8_203 rfl rfl (Nat.le_of_ble_eq_true rfl) ⟨⟨rfl, rfl⟩, Nat.le_of_ble_eq_true rfl, rfl⟩ (Nat.le_of_ble_eq_true rfl) (Nat.le_of_ble_eq_true rfl) (q_iload_n c_145_0 rfl (v_if_ne_t (t := 26) c_145_1 rfl (by decide) (q_aload_n c_145_26 rfl (v_gi (z := 0) (v := 0) c_145_27 kf_8_3 rfl (Nat.le_of_ble_eq_true rfl) rfl rfl (up_e rfl) (v_if_ne_f (t := 37) c_145_30 rfl (by decide) (q_iconst c_145_33 ?_)))))))
      refine q_goto (t := 38) c_145_34 rfl (v_zret c_145_38 rfl (by decide) (bk_inl (v_if_ne_t (t := 40) c_177_35 rfl (by decide) (q_aload_n c_177_40 rfl (q_iload_n c_177_41 rfl ?_)))))
      have hI_101 := iw_41_0 (v := 0) hI ⟨by decide, by decide⟩
      refine v_cv c_177_42 km_8_207 rfl rfl (Nat.le_of_ble_eq_true rfl) ⟨⟨rfl, rfl⟩, Nat.le_of_ble_eq_true rfl, rfl⟩ (Nat.le_of_ble_eq_true rfl) (Nat.le_of_ble_eq_true rfl) (s_163 (a1 := a1) hI_101 (show 0 ≤ a1 ∧ a1 ≤ 600 from ⟨by first | exact q_d12bc8d2a hq0 | omega, by first | exact q_f37fc148c hq0 | omega⟩) (fun c_102 hI_103 hF_104 h_105 => (bk_inl ?_)))
      have h_106 := ir_41_2 hI_103
      have h_107 := ir_41_3 hI_103
      have h_108 := ir_41_4 hI_103
      have h_109 := ir_41_5 hI_103
      have h_110 := ir_41_7 hI_103
      refine q_aload_n c_177_45 rfl (q_iconst c_177_46 (v_pi (z := 29) c_177_47 kf_8_236 rfl (Nat.le_of_ble_eq_true rfl) rfl rfl rfl (by decide) (q_aload_n c_177_50 rfl ?_)))
      have hI_111 := iw_41_29 (v := 0) hI_103 ⟨by decide, by decide⟩
      have h_112 : (up c_102 41 29 0) 41 5 = c_102 41 5 := (up_n (by decide))
      have h_113 : (up c_102 41 29 0) 41 3 = c_102 41 3 := (up_n (by decide))
      have h_114 : (up c_102 41 29 0) 41 4 = c_102 41 4 := (up_n (by decide))
      have h_115 : (up c_102 41 29 0) 41 29 = 0 := (up_e rfl)
      have h_116 : (up c_102 41 29 0) 41 7 = c_102 41 7 := (up_n (by decide))
      obtain ⟨hW_117, hN_118⟩ := nw_zero (c := up c_102 41 29 0) ((up_e rfl))
      refine v_cv c_177_51 km_8_251 rfl rfl (Nat.le_of_ble_eq_true rfl) ⟨⟨rfl, rfl⟩, Nat.le_of_ble_eq_true rfl, rfl⟩ (Nat.le_of_ble_eq_true rfl) (Nat.le_of_ble_eq_true rfl) (fn_of (r_174 (o := 0) hI_111 (show 0 ≤ 0 ∧ 0 ≤ 6 from by omega) hW_117 (by first | exact q_6d0a553af h_105 h_109 | omega) (by first | exact q_aa9195485 h_105 h_107 | omega) (by first | exact q_347fb3ff8 h_105 hq0 | omega) (by first | exact q_1dc94a4e9 h_108 | omega) (by first | exact q_c5aecebbc h_105 h_110 | omega) (fun c_119 hI_120 hF_121 hW_122 h_123 h_124 h_125 h_126 h_127 => ?_)))
      intro hG_132
      refine bk_inl ?_
      have h_128 := ir_41_4 hI_120
      have h_129 := ir_41_7 hI_120
      have h_130 := ir_41_29 hI_120
      have h_131 := ir_41_5 hI_120
      have hI_133 := iw_41_29 (v := 0) hI_103 ⟨by decide, by decide⟩
      have h_134 : (up (up (up (up (up (up m 1 1 y_4) 1 2 0) 1 3 0) 1 4 0) 1 5 (-1)) (P + 7) 5 0) 1 4 = 0 := ((up_c (pn hP rfl rfl)).trans ((up_n (by decide)).trans (up_e rfl)))
      have h_135 : (up (up (up (up (up (up m 1 1 y_4) 1 2 0) 1 3 0) 1 4 0) 1 5 (-1)) (P + 7) 5 0) 1 2 = 0 := ((up_c (pn hP rfl rfl)).trans ((up_n (by decide)).trans ((up_n (by decide)).trans ((up_n (by decide)).trans (up_e rfl)))))
      have h_136 : (up (up (up (up (up (up m 1 1 y_4) 1 2 0) 1 3 0) 1 4 0) 1 5 (-1)) (P + 7) 5 0) 1 5 = (-1) := ((up_c (pn hP rfl rfl)).trans (up_e rfl))
      have h_137 : (up c_102 41 29 0) 41 5 = c_102 41 5 := (up_n (by decide))
      have h_138 : (up c_102 41 29 0) 41 4 = c_102 41 4 := (up_n (by decide))
      have h_139 := ir_41_6 hI
      have kn_140 : Hid (c_102 41 6 = c 41 6) := (hF_104 41 6 qn_eb0d473e8).trans (up_n (by decide))
      have h_141 : (up c_102 41 29 0) 41 6 = c 41 6 := ((up_n (by decide)).trans (hid kn_140))
      have hA_142 : Ce 0 ((up (up (up (up (up (up m 1 1 y_4) 1 2 0) 1 3 0) 1 4 0) 1 5 (-1)) (P + 7) 5 0) (P + 9)) ((up c_102 41 29 0) 50) ((up c_102 41 29 0) 51) := ce_z (by omega)
      have hR_143 : Rt c_11 c_119 := gh hG_132 (L_13c (c := (up c_102 41 29 0)) (m := up (up (up (up (up (up m 1 1 y_4) 1 2 0) 1 3 0) 1 4 0) 1 5 (-1)) (P + 7) 5 0) (a2 := 0) (e1 := y_4) (f0 := 0) (g0 := (-1)) (p0 := 0) (n0 := 0) (o0 := c_102 41 7) (F := F) (H := H) hI_133 hI_10 hI_12 hP (show 0 ≤ 0 ∧ 0 ≤ 6 from by omega) (by omega) (by omega) (by omega) (by omega) (by omega) (by omega) (((up_c (pn hP rfl rfl)).trans ((up_n (by decide)).trans ((up_n (by decide)).trans ((up_n (by decide)).trans ((up_n (by decide)).trans (up_e rfl))))))) (((show _ = c_102 41 3 from (up_n (by decide))).trans (by omega))) (((up_c (pn hP rfl rfl)).trans ((up_n (by decide)).trans (up_e rfl)))) (((up_c (pn hP rfl rfl)).trans (up_e rfl))) (((up_c (pn hP rfl rfl)).trans ((up_n (by decide)).trans ((up_n (by decide)).trans ((up_n (by decide)).trans (up_e rfl)))))) ((up_e rfl)) ((up_e rfl)) ((up_n (by decide))) (fun j => ((up_c (pn hP rfl rfl)).trans ((up_c (nn rfl)).trans ((up_c (nn rfl)).trans ((up_c (nn rfl)).trans ((up_c (nn rfl)).trans (up_c (nn rfl))))))).trans (hF j)) (fun j => ((up_c (nn rfl)).trans ((hF_104 43 j qn_78d42cb5c).trans (up_c (nn rfl)))).trans (hH j)) hU (rt_i1 ⟨by first | assumption | omega, by first | exact q_6d0a553af h_105 h_109 | omega, by first | exact q_a7ddc6b3b h_105 h_108 | omega, by first | assumption | omega⟩) (ce_le hA_142 (by omega)) hG_14 (fun c8 hI8 hF8 hR8 h_144 h_145 h_146 => fun e8 => rt_wd hR8 (Prod.mk.inj (Prod.mk.inj e8).2).1 hI8 hI_120))
      refine q_aload_n c_177_54 rfl (v_cv c_177_55 km_8_131 rfl rfl (Nat.le_of_ble_eq_true rfl) ⟨⟨rfl, rfl⟩, Nat.le_of_ble_eq_true rfl, rfl⟩ (Nat.le_of_ble_eq_true rfl) (Nat.le_of_ble_eq_true rfl) (q_aload_n c_152_0 rfl ?_))
      have h_147 := ir_41_6 hI_120
      have h_148 := rt_ok hR_143 (by first | exact q_163d1c5eb h_15 h_16 | omega)
      have hro_hR_143 := rt_ok hR_143 (by first | exact q_163d1c5eb h_15 h_16 | omega)
      refine v_gi (z := 5) (v := (-1)) c_152_1 kf_8_102 rfl (Nat.le_of_ble_eq_true rfl) rfl rfl hro_hR_143.2.1 (q_iconst c_152_4 (v_ic_ne_f (t := 12) c_152_5 rfl (by decide) (q_iconst c_152_8 (q_goto (t := 13) c_152_9 rfl (v_zret c_152_13 rfl (by decide) (bk_inl (v_if_eq_f (t := 77) c_177_58 rfl (by decide) ?_)))))))
      refine q_aload_n c_177_61 rfl (v_cv c_177_62 km_8_211 rfl rfl (Nat.le_of_ble_eq_true rfl) ⟨⟨rfl, rfl⟩, Nat.le_of_ble_eq_true rfl, rfl⟩ (Nat.le_of_ble_eq_true rfl) (Nat.le_of_ble_eq_true rfl) (q_aload_n c_162_0 rfl ?_))
      have kn_149 : Hid (c_119 41 3 = c_102 41 3) := (hF_121 41 3 qn_d31ba9b5e).trans (up_n (by decide))
      have h_150 := nx_be (b := F) (e := c_102 41 3) (a := c_11 1 2) (by first | (clear ha1 hq0 h_1 hg_t9 h_2 hr_t9 h_15 h_16 h_79 h_80 h_81 h_82 h_89 h_91 h_96 h_97 h_99 h_100 h_106 h_107 h_108 h_109 h_110 h_105 h_128 h_123 h_129 h_124 h_130 h_125 h_147 h_83 h_127; omega) | omega)
      have h_151 : -2147483648 ≤ (F (nx F (c_102 41 3) (c_11 1 2))) ∧ (F (nx F (c_102 41 3) (c_11 1 2))) ≤ 2147483647 := by rw [← hF (nx F (c_102 41 3) (c_11 1 2))]; exact ir_2 hJ (nx F (c_102 41 3) (c_11 1 2))
      have h_152 := nx_n (b := F) (e := c_102 41 3) (a := c_11 1 2)
      have h_153 : (nx F (c_102 41 3) (c_11 1 2)) = (nx F y_4 (c_11 1 2)) := congrArg (fun z => nx F z (c_11 1 2)) (by omega)
      have h_154 : -2147483648 ≤ (H (nx F y_4 (c_11 1 2))) ∧ (H (nx F y_4 (c_11 1 2))) ≤ 2147483647 := by rw [← hH (nx F y_4 (c_11 1 2))]; exact ir_43 hI (nx F y_4 (c_11 1 2))
      have h_155 := hU (nx F y_4 (c_11 1 2)) (by first | exact q_c1bbacda5 h_79 h_81 | omega) (by first | exact q_d88b6b7cb h_105 h_150 h_153 hq0 | omega)
      have h_156 := hb_or (b := H) (e := c_102 41 3) (r := (nx F y_4 (c_11 1 2)))
      have h_157 := hb_bd (b := H) (e := c_102 41 3) (r := (nx F y_4 (c_11 1 2))) (lo := -2147483648) (hi := 2147483647) h_154 (by decide)
      refine v_cv c_162_1 km_8_114 rfl rfl (Nat.le_of_ble_eq_true rfl) ⟨⟨rfl, rfl⟩, Nat.le_of_ble_eq_true rfl, rfl⟩ (Nat.le_of_ble_eq_true rfl) (Nat.le_of_ble_eq_true rfl) (f_154 (e1 := c_102 41 3) (a9 := c_11 1 2) (B := H) (r8 := (nx F y_4 (c_11 1 2))) (r := (hb H (c_102 41 3) (nx F y_4 (c_11 1 2)))) hI_120 ((hid kn_149)) (hro_hR_143.2.2.1) (fun j => ((hF_121 43 j qn_9b8df3fcd).trans ((up_c (nn rfl)).trans ((hF_104 43 j qn_78d42cb5c).trans (up_c (nn rfl))))).trans (hH j)) (((nx_tr hU (h_79.1) (h_107.2)).trans (rfl)).trans h_153) rfl (fun c_158 hI_159 hF_160 h_161 => (bk_inl (q_pop c_162_4 rfl (q_aload_n c_162_5 rfl (v_gi (z := 4) (v := (nx F y_4 (c_11 1 2))) c_162_6 kf_8_108 rfl (Nat.le_of_ble_eq_true rfl) rfl rfl (h_161) (q_aload_n c_162_9 rfl ?_)))))))
      have kn_162 : Hid (c_158 41 3 = c_102 41 3) := (hF_160 41 3 (fun h => absurd h.2 (ni rfl))).trans (hid kn_149)
      refine v_gi (z := 3) (v := c_102 41 3) c_162_10 kf_8_111 rfl (Nat.le_of_ble_eq_true rfl) rfl rfl (hid kn_162) (v_ic_ge_t (t := 20) c_162_13 rfl ⟨(Int.le_trans (by decide) h_107.1), by first | (clear ha1 h_1 hg_t9 h_2 hr_t9 h_15 h_16 h_79 h_80 h_81 h_82 h_91 h_96 h_97 h_99 h_100 h_106 h_107 h_108 h_109 h_110 h_128 h_123 h_129 h_124 h_130 h_125 h_131 h_147 h_148 h_150 h_151 h_153 h_154 h_155 h_157 h_83 h_126 h_127 h_152 h_156; omega) | omega, by first | exact q_0deb8d529 h_107 h_150 h_153 | omega⟩ (q_iconst c_162_20 (v_zret c_162_21 rfl (by decide) (bk_inl (v_if_eq_t (t := 77) c_177_65 rfl (by decide) (q_aload_n c_177_77 rfl (q_iconst c_177_78 ?_)))))))
      refine v_cv c_177_79 km_8_232 rfl rfl (Nat.le_of_ble_eq_true rfl) ⟨⟨rfl, rfl⟩, Nat.le_of_ble_eq_true rfl, rfl⟩ (Nat.le_of_ble_eq_true rfl) (Nat.le_of_ble_eq_true rfl) (q_aload_n c_164_0 rfl (q_aload_n c_164_1 rfl ?_))
      have kn_163 : Hid (c_158 41 5 = (-1)) := (hF_160 41 5 (fun h => absurd h.2 (ni rfl))).trans hro_hR_143.2.1
      refine v_gi (z := 5) (v := (-1)) c_164_2 kf_8_102 rfl (Nat.le_of_ble_eq_true rfl) rfl rfl (hid kn_163) (v_pi (z := 8) c_164_5 kf_8_17 rfl (Nat.le_of_ble_eq_true rfl) rfl rfl rfl (by decide) (q_aload_n c_164_8 rfl (v_cv c_164_9 km_8_131 rfl rfl (Nat.le_of_ble_eq_true rfl) ⟨⟨rfl, rfl⟩, Nat.le_of_ble_eq_true rfl, rfl⟩ (Nat.le_of_ble_eq_true rfl) (Nat.le_of_ble_eq_true rfl) (q_aload_n c_152_0 rfl (v_gi (z := 5) (v := (-1)) c_152_1 kf_8_102 rfl (Nat.le_of_ble_eq_true rfl) rfl rfl ((up_n (by decide)).trans (hid kn_163)) (q_iconst c_152_4 (v_ic_ne_f (t := 12) c_152_5 rfl (by decide) ?_)))))))
      refine q_iconst c_152_8 (q_goto (t := 13) c_152_9 rfl (v_zret c_152_13 rfl (by decide) (bk_inl (v_if_eq_f (t := 19) c_164_12 rfl (by decide) (q_iload_n c_164_15 rfl (q_goto (t := 26) c_164_16 rfl (q_iret c_164_26 rfl ?_)))))))
      refine bk_inl (q_istore_n c_177_82 (Nat.le_of_ble_eq_true rfl) (q_aload_n c_177_83 rfl (v_gi (z := 5) (v := (-1)) c_177_84 kf_8_102 rfl (Nat.le_of_ble_eq_true rfl) rfl rfl ((up_n (by decide)).trans (hid kn_163)) (q_iconst c_177_87 (v_ic_eq_t (t := 93) c_177_88 rfl (by decide) (q_aload_n c_177_93 rfl (q_aload_n c_177_94 rfl ?_)))))))
      have kn_164 : Hid (c_158 41 29 = c_119 41 29) := hF_160 41 29 (fun h => absurd h.2 (ni rfl))
      refine v_gi (z := 29) (v := c_119 41 29) c_177_95 kf_8_236 rfl (Nat.le_of_ble_eq_true rfl) rfl rfl ((up_n (by decide)).trans (hid kn_164)) (v_pi (z := 30) c_177_98 kf_8_173 rfl (Nat.le_of_ble_eq_true rfl) rfl rfl rfl (by decide) (q_aload_n c_177_101 rfl (q_aload_n c_177_102 rfl (v_gr (t := 50) c_177_103 kf_8_41 rfl (Nat.le_of_ble_eq_true rfl) rfl (q_aload_n c_177_106 rfl (v_gr (t := 52) c_177_107 kf_8_47 rfl (Nat.le_of_ble_eq_true rfl) rfl (q_aload_n c_177_110 rfl ?_)))))))
      refine v_gi (z := 29) (v := c_119 41 29) c_177_111 kf_8_236 rfl (Nat.le_of_ble_eq_true rfl) rfl rfl ((up_n (by decide)).trans ((up_n (by decide)).trans (hid kn_164))) ?_
      obtain ⟨hW_165, hN_166⟩ : Nw (up c_158 41 8 (-1)) ∧ Nh (up c_158 41 8 (-1)) = Nh c_119 := nh_fr hW_122 (fun j => (up_c (nn rfl)).trans (hF_160 50 j (fun h => absurd h.1 (nn rfl)))) (fun j => (up_c (nn rfl)).trans (hF_160 51 j (fun h => absurd h.1 (nn rfl)))) ((up_n (by decide)).trans (hF_160 41 29 (fun h => absurd h.2 (ni rfl))))
      refine v_cv c_177_114 km_8_169 rfl rfl (Nat.le_of_ble_eq_true rfl) ⟨⟨rfl, rfl⟩, Nat.le_of_ble_eq_true rfl, rfl⟩ (Nat.le_of_ble_eq_true rfl) (Nat.le_of_ble_eq_true rfl) (s_148 (f := 50) (t := 52) (nf := 150) (nt := 150) (n := c_119 41 29) rfl rfl (by decide) (by decide) (by decide) (by decide) (by decide) (by omega) (bk_inl (q_aload_n c_177_117 rfl (q_aload_n c_177_118 rfl (v_gr (t := 51) c_177_119 kf_8_44 rfl (Nat.le_of_ble_eq_true rfl) rfl (q_aload_n c_177_122 rfl (v_gr (t := 53) c_177_123 kf_8_50 rfl (Nat.le_of_ble_eq_true rfl) rfl (q_aload_n c_177_126 rfl ?_))))))))
      refine v_gi (z := 29) (v := c_119 41 29) c_177_127 kf_8_236 rfl (Nat.le_of_ble_eq_true rfl) rfl rfl ((upc_c (by omega)).trans ((up_n (by decide)).trans ((up_n (by decide)).trans (hid kn_164)))) (v_cv c_177_130 km_8_169 rfl rfl (Nat.le_of_ble_eq_true rfl) ⟨⟨rfl, rfl⟩, Nat.le_of_ble_eq_true rfl, rfl⟩ (Nat.le_of_ble_eq_true rfl) (Nat.le_of_ble_eq_true rfl) (s_148 (f := 51) (t := 53) (nf := 150) (nt := 150) (n := c_119 41 29) rfl rfl (by decide) (by decide) (by decide) (by decide) (by decide) (by omega) (bk_inl (q_iload_n c_177_133 rfl (q_iret c_177_134 rfl ?_)))))
      have hI_167 := iw_41_8 (v := (-1)) hI_159 ⟨by decide, by decide⟩
      have hI_168 : Iv 0 (-1) P2 Q2 (upc (upc (up (up c_158 41 8 (-1)) 41 30 (c_119 41 29)) 50 0 52 0 (c_119 41 29)) 51 0 53 0 (c_119 41 29)) := iv_law (n := c_119 41 29) hI_167 hW_165 (show (up c_158 41 8 (-1)) 41 29 = c_119 41 29 from ((up_n (by decide)).trans (hid kn_164))) (by omega)
      have kn_169 : Hid (c_119 41 2 = c_102 41 2) := (hF_121 41 2 qn_6ef24e77f).trans (up_n (by decide))
      have kn_170 : Hid (c_158 41 2 = c_102 41 2) := (hF_160 41 2 (fun h => absurd h.2 (ni rfl))).trans (hid kn_169)
      have h_171 : (upc (upc (up (up c_158 41 8 (-1)) 41 30 (c_119 41 29)) 50 0 52 0 (c_119 41 29)) 51 0 53 0 (c_119 41 29)) 41 2 = c_102 41 2 := ((upc_c (by omega)).trans ((upc_c (by omega)).trans ((up_n (by decide)).trans ((up_n (by decide)).trans (hid kn_170)))))
      have h_172 : (upc (upc (up (up c_158 41 8 (-1)) 41 30 (c_119 41 29)) 50 0 52 0 (c_119 41 29)) 51 0 53 0 (c_119 41 29)) 41 8 = (-1) := ((upc_c (by omega)).trans ((upc_c (by omega)).trans ((up_n (by decide)).trans (up_e rfl))))
      have kn_173 : Hid (c_102 41 0 = 0) := (hF_104 41 0 qn_18af663b8).trans (up_e rfl)
      have kn_174 : Hid (c_119 41 0 = 0) := (hF_121 41 0 qn_d0959c513).trans ((up_n (by decide)).trans (hid kn_173))
      have kn_175 : Hid (c_158 41 0 = 0) := (hF_160 41 0 (fun h => absurd h.2 (ni rfl))).trans (hid kn_174)
      have h_176 : (upc (upc (up (up c_158 41 8 (-1)) 41 30 (c_119 41 29)) 50 0 52 0 (c_119 41 29)) 51 0 53 0 (c_119 41 29)) 41 0 = 0 := ((upc_c (by omega)).trans ((upc_c (by omega)).trans ((up_n (by decide)).trans ((up_n (by decide)).trans (hid kn_175)))))
      exact K (upc (upc (up (up c_158 41 8 (-1)) 41 30 (c_119 41 29)) 50 0 52 0 (c_119 41 29)) 51 0 53 0 (c_119 41 29)) 1 hI_168 (fun a j hm => (upc_c (fun h => hm (Or.inr (Or.inr (Or.inr (Or.inr (Or.inr (Or.inr (Or.inr (Or.inr (Or.inr (Or.inr (Or.inr (Or.inr (Or.inr (Or.inr h)))))))))))))))).trans ((upc_c (fun h => hm (Or.inr (Or.inr (Or.inr (Or.inr (Or.inr (Or.inr (Or.inr (Or.inr (Or.inr (Or.inr (Or.inr (Or.inr (Or.inr (Or.inl h)))))))))))))))).trans ((up_b (Decidable.or_iff_not_imp_left.mpr (fun h1 h2 => hm (Or.inr (Or.inr (Or.inr (Or.inr (Or.inr (Or.inr (Or.inr (Or.inr (Or.inr (Or.inr (Or.inl ⟨Decidable.not_not.mp h1, h2⟩)))))))))))))).trans ((up_b (Decidable.or_iff_not_imp_left.mpr (fun h1 h2 => hm (Or.inr (Or.inr (Or.inr (Or.inr (Or.inr (Or.inr (Or.inr (Or.inr (Or.inl ⟨Decidable.not_not.mp h1, h2⟩)))))))))))).trans ((hF_160 a j (fun h => hm (Or.inr (Or.inr (Or.inr (Or.inr (Or.inl h))))))).trans ((hF_121 a j (qv_64dbd55b6 hm)).trans ((up_b (Decidable.or_iff_not_imp_left.mpr (fun h1 h2 => hm (Or.inr (Or.inr (Or.inr (Or.inr (Or.inr (Or.inr (Or.inr (Or.inr (Or.inr (Or.inl ⟨Decidable.not_not.mp h1, h2⟩))))))))))))).trans ((hF_104 a j (qv_514f8c9e5 hm)).trans (up_b (Decidable.or_iff_not_imp_left.mpr (fun h1 h2 => hm (Or.inl ⟨Decidable.not_not.mp h1, h2⟩)))))))))))) ⟨by omega, by omega⟩ (by first | exact q_69efb464e h_96 | omega) (by first | exact q_59baff7b3 h_105 h_106 | omega) (by first | exact q_4f240556c h_100 h_148 h_99 | omega) (by first | assumption | omega)
    · refine v_ic_ge_f (t := 22) c_15_15 rfl ⟨by first | exact q_d3451e228 h_79 h_81 | omega, (Int.not_le.mp h_89), by first | (clear ha1 h_1 hg_t9 h_2 hr_t9 h_15 h_16 h_79 h_80 h_81 h_82 h_83; omega) | omega⟩ (q_iconst c_15_18 (q_goto (t := 23) c_15_19 rfl (v_zret c_15_23 rfl (by decide) (bk_inl (v_if_eq_f (t := 16) c_16_4 rfl (by decide) (q_aload_n c_16_7 rfl (q_iconst c_16_8 ?_)))))))
      refine q_aload_n c_16_9 rfl (v_gi (z := 2) (v := (nx F y_4 (c_11 1 2))) c_16_10 kf_5_35 rfl (Nat.le_of_ble_eq_true rfl) rfl rfl (hz_87) (v_cv c_16_13 km_5_52 rfl rfl (Nat.le_of_ble_eq_true rfl) ⟨⟨rfl, rfl⟩, Nat.le_of_ble_eq_true rfl, rfl⟩ (Nat.le_of_ble_eq_true rfl) (Nat.le_of_ble_eq_true rfl) (q_aload_n c_7_0 rfl ?_)))
      have kn_177 : Hid (c_84 1 4 = c_11 1 4) := hF_86 1 4 (fun h => absurd h.2 (ni rfl))
      refine v_gi (z := 4) (v := c_11 1 4) c_7_1 kf_5_38 rfl (Nat.le_of_ble_eq_true rfl) rfl rfl (hid kn_177) (v_if_ne_f (t := 17) c_7_4 rfl (by first | exact q_163d1c5eb h_15 h_16 | omega) (q_aload_n c_7_7 rfl (q_iload_n c_7_8 rfl (v_pi (z := 4) c_7_9 kf_5_38 rfl (Nat.le_of_ble_eq_true rfl) rfl rfl rfl (by decide) (q_aload_n c_7_12 rfl (q_iload_n c_7_13 rfl (v_pi (z := 5) c_7_14 kf_5_15 rfl (Nat.le_of_ble_eq_true rfl) rfl rfl rfl (by decide) ?_)))))))
      refine q_vret rfl rfl (bk_inl (q_vret rfl rfl (bk_inl (q_aload_n c_17_15 rfl (v_cv c_17_16 km_0_40 rfl rfl (Nat.le_of_ble_eq_true rfl) ⟨⟨rfl, rfl⟩, Nat.le_of_ble_eq_true rfl, rfl⟩ (Nat.le_of_ble_eq_true rfl) (Nat.le_of_ble_eq_true rfl) (q_aload_n c_2_0 rfl (v_gi (z := 4) (v := 1) c_2_1 kf_5_38 rfl (Nat.le_of_ble_eq_true rfl) rfl rfl ((up_n (by decide)).trans (up_e rfl)) ?_)))))))
      refine v_if_ne_t (t := 11) c_2_4 rfl (by decide) (q_iconst c_2_11 (v_zret c_2_12 rfl (by decide) (bk_inl (v_if_eq_t (t := 46) c_17_19 rfl (by decide) (q_vret rfl rfl (bk_inl (q_aload_n c_85_22 rfl ?_)))))))
      refine q_iconst c_85_23 (v_cv c_85_24 km_7_105 rfl rfl (Nat.le_of_ble_eq_true rfl) ⟨⟨rfl, rfl⟩, Nat.le_of_ble_eq_true rfl, rfl⟩ (Nat.le_of_ble_eq_true rfl) (Nat.le_of_ble_eq_true rfl) (q_aload_n c_83_0 rfl (v_gr (t := 1) c_83_1 kf_7_10 rfl (Nat.le_of_ble_eq_true rfl) rfl (v_cv c_83_4 km_7_89 rfl rfl (Nat.le_of_ble_eq_true rfl) ⟨⟨rfl, rfl⟩, Nat.le_of_ble_eq_true rfl, rfl⟩ (Nat.le_of_ble_eq_true rfl) (Nat.le_of_ble_eq_true rfl) (q_aload_n c_2_0 rfl (v_gi (z := 4) (v := 1) c_2_1 kf_5_38 rfl (Nat.le_of_ble_eq_true rfl) rfl rfl ((up_n (by decide)).trans (up_e rfl)) (v_if_ne_t (t := 11) c_2_4 rfl (by decide) ?_)))))))
      refine q_iconst c_2_11 (v_zret c_2_12 rfl (by decide) (bk_inl (v_if_eq_t (t := 14) c_83_7 rfl (by decide) (q_aload_n c_83_14 rfl (v_gr (t := 1) c_83_15 kf_7_10 rfl (Nat.le_of_ble_eq_true rfl) rfl (v_gi (z := 4) (v := 1) c_83_18 kf_7_351 rfl (Nat.le_of_ble_eq_true rfl) rfl rfl ((up_n (by decide)).trans (up_e rfl)) (v_bip c_83_21 (by decide) ?_)))))))
      refine v_isub (v := (-9)) c_83_23 (by decide) (q_iret c_83_24 rfl (bk_inl (q_iret c_85_27 rfl ?_)))
      have hI_178 := iw_1_4 (v := 1) hI_85 ⟨by decide, by decide⟩
      have hI_179 := iw_1_5 (v := (nx F y_4 (c_11 1 2))) hI_178 ⟨by first | exact q_27a274ef3 h_79 h_81 | omega, by first | (clear ha1 h_1 hg_t9 h_2 hr_t9 h_15 h_16 h_79 h_80 h_81 h_82 h_83; omega) | omega⟩
      intro hE_180
      have h_181 : yg = (-9) := (vi_inj ⟨by omega, by omega⟩ ⟨by omega, by omega⟩ (Option.some.inj (Sum.inl.inj (Prod.mk.inj hE_180).1))).symm
      have hW : Wd P Q P P (up (up c_84 1 4 1) 1 5 (nx F y_4 (c_11 1 2))) = Wd P Q P P m9 := (Prod.mk.inj (Prod.mk.inj hE_180).2).1
      have h_182 := ir_1_5 hJ9
      have h_183 : m9 1 5 = (nx F y_4 (c_11 1 2)) := wd_fv (z := 5) 5 rfl hW rfl rfl rfl rfl (by decide) (up_e rfl) ⟨by first | exact q_d3451e228 h_79 h_81 | omega, by first | (clear ha1 h_1 hg_t9 h_2 hr_t9 h_15 h_16 h_79 h_80 h_81 h_82 h_181 h_182 h_83; omega) | omega⟩ ⟨(Int.le_trans (by decide) h_182.1), (Int.le_trans h_182.2 (by decide))⟩
      refine q_aload_n c_177_0 rfl (q_iconst c_177_1 (v_pi (z := 0) c_177_2 kf_8_3 rfl (Nat.le_of_ble_eq_true rfl) rfl rfl rfl (by decide) (q_aload_n c_177_5 rfl (q_iload_n c_177_6 rfl (v_if_lt_f (t := 29) c_177_7 rfl ⟨by decide, by first | exact q_d12bc8d2a hq0 | omega, ha1.2⟩ (q_iload_n c_177_10 rfl (q_aload_n c_177_11 rfl ?_)))))))
      refine v_gi (z := 2) (v := t9) c_177_12 kf_8_99 rfl (Nat.le_of_ble_eq_true rfl) rfl rfl ((up_n (by decide)).trans (hr_t9)) (v_ic_gt_f (t := 29) c_177_15 rfl ⟨ha1.1, by first | exact q_5ade8dffc hq0 | omega, (Int.le_trans (rg_eq hg_t9 h_1).2 (by decide))⟩ (q_iload_n c_177_18 rfl (v_sip c_177_19 (by decide) (v_ic_gt_f (t := 29) c_177_22 rfl ⟨ha1.1, by first | exact q_c25acb4df hq0 | omega, by decide⟩ (q_iconst c_177_25 (q_goto (t := 30) c_177_26 rfl (q_iconst c_177_30 ?_)))))))
      refine q_iconst c_177_31 (v_cv c_177_32 km_8_203 rfl rfl (Nat.le_of_ble_eq_true rfl) ⟨⟨rfl, rfl⟩, Nat.le_of_ble_eq_true rfl, rfl⟩ (Nat.le_of_ble_eq_true rfl) (Nat.le_of_ble_eq_true rfl) (q_iload_n c_145_0 rfl (v_if_ne_t (t := 26) c_145_1 rfl (by decide) (q_aload_n c_145_26 rfl (v_gi (z := 0) (v := 0) c_145_27 kf_8_3 rfl (Nat.le_of_ble_eq_true rfl) rfl rfl (up_e rfl) (v_if_ne_f (t := 37) c_145_30 rfl (by decide) (q_iconst c_145_33 ?_)))))))
      refine q_goto (t := 38) c_145_34 rfl (v_zret c_145_38 rfl (by decide) (bk_inl (v_if_ne_t (t := 40) c_177_35 rfl (by decide) (q_aload_n c_177_40 rfl (q_iload_n c_177_41 rfl ?_)))))
      have hI_184 := iw_41_0 (v := 0) hI ⟨by decide, by decide⟩
      refine v_cv c_177_42 km_8_207 rfl rfl (Nat.le_of_ble_eq_true rfl) ⟨⟨rfl, rfl⟩, Nat.le_of_ble_eq_true rfl, rfl⟩ (Nat.le_of_ble_eq_true rfl) (Nat.le_of_ble_eq_true rfl) (s_163 (a1 := a1) hI_184 (show 0 ≤ a1 ∧ a1 ≤ 600 from ⟨by first | exact q_d12bc8d2a hq0 | omega, by first | exact q_f37fc148c hq0 | omega⟩) (fun c_185 hI_186 hF_187 h_188 => (bk_inl ?_)))
      have h_189 := ir_41_2 hI_186
      have h_190 := ir_41_3 hI_186
      have h_191 := ir_41_4 hI_186
      have h_192 := ir_41_5 hI_186
      have h_193 := ir_41_7 hI_186
      refine q_aload_n c_177_45 rfl (q_iconst c_177_46 (v_pi (z := 29) c_177_47 kf_8_236 rfl (Nat.le_of_ble_eq_true rfl) rfl rfl rfl (by decide) (q_aload_n c_177_50 rfl ?_)))
      have hI_194 := iw_41_29 (v := 0) hI_186 ⟨by decide, by decide⟩
      have h_195 : (up c_185 41 29 0) 41 5 = c_185 41 5 := (up_n (by decide))
      have h_196 : (up c_185 41 29 0) 41 3 = c_185 41 3 := (up_n (by decide))
      have h_197 : (up c_185 41 29 0) 41 4 = c_185 41 4 := (up_n (by decide))
      have h_198 : (up c_185 41 29 0) 41 29 = 0 := (up_e rfl)
      have h_199 : (up c_185 41 29 0) 41 7 = c_185 41 7 := (up_n (by decide))
      obtain ⟨hW_200, hN_201⟩ := nw_zero (c := up c_185 41 29 0) ((up_e rfl))
      refine v_cv c_177_51 km_8_251 rfl rfl (Nat.le_of_ble_eq_true rfl) ⟨⟨rfl, rfl⟩, Nat.le_of_ble_eq_true rfl, rfl⟩ (Nat.le_of_ble_eq_true rfl) (Nat.le_of_ble_eq_true rfl) (fn_of (r_174 (o := 0) hI_194 (show 0 ≤ 0 ∧ 0 ≤ 6 from by omega) hW_200 (by first | exact q_6d0a553af h_188 h_192 | omega) (by first | exact q_aa9195485 h_188 h_190 | omega) (by first | exact q_347fb3ff8 h_188 hq0 | omega) (by first | exact q_1dc94a4e9 h_191 | omega) (by first | exact q_c5aecebbc h_188 h_193 | omega) (fun c_202 hI_203 hF_204 hW_205 h_206 h_207 h_208 h_209 h_210 => ?_)))
      intro hG_215
      refine bk_inl ?_
      have h_211 := ir_41_4 hI_203
      have h_212 := ir_41_7 hI_203
      have h_213 := ir_41_29 hI_203
      have h_214 := ir_41_5 hI_203
      have hI_216 := iw_41_29 (v := 0) hI_186 ⟨by decide, by decide⟩
      have h_217 : (up (up (up (up (up (up m 1 1 y_4) 1 2 0) 1 3 0) 1 4 0) 1 5 (-1)) (P + 7) 5 0) 1 4 = 0 := ((up_c (pn hP rfl rfl)).trans ((up_n (by decide)).trans (up_e rfl)))
      have h_218 : (up (up (up (up (up (up m 1 1 y_4) 1 2 0) 1 3 0) 1 4 0) 1 5 (-1)) (P + 7) 5 0) 1 2 = 0 := ((up_c (pn hP rfl rfl)).trans ((up_n (by decide)).trans ((up_n (by decide)).trans ((up_n (by decide)).trans (up_e rfl)))))
      have h_219 : (up (up (up (up (up (up m 1 1 y_4) 1 2 0) 1 3 0) 1 4 0) 1 5 (-1)) (P + 7) 5 0) 1 5 = (-1) := ((up_c (pn hP rfl rfl)).trans (up_e rfl))
      have h_220 : (up c_185 41 29 0) 41 5 = c_185 41 5 := (up_n (by decide))
      have h_221 : (up c_185 41 29 0) 41 4 = c_185 41 4 := (up_n (by decide))
      have h_222 := ir_41_6 hI
      have kn_223 : Hid (c_185 41 6 = c 41 6) := (hF_187 41 6 qn_eb0d473e8).trans (up_n (by decide))
      have h_224 : (up c_185 41 29 0) 41 6 = c 41 6 := ((up_n (by decide)).trans (hid kn_223))
      have hA_225 : Ce 0 ((up (up (up (up (up (up m 1 1 y_4) 1 2 0) 1 3 0) 1 4 0) 1 5 (-1)) (P + 7) 5 0) (P + 9)) ((up c_185 41 29 0) 50) ((up c_185 41 29 0) 51) := ce_z (by omega)
      have hR_226 : Rt c_11 c_202 := gh hG_215 (L_13c (c := (up c_185 41 29 0)) (m := up (up (up (up (up (up m 1 1 y_4) 1 2 0) 1 3 0) 1 4 0) 1 5 (-1)) (P + 7) 5 0) (a2 := 0) (e1 := y_4) (f0 := 0) (g0 := (-1)) (p0 := 0) (n0 := 0) (o0 := c_185 41 7) (F := F) (H := H) hI_216 hI_10 hI_12 hP (show 0 ≤ 0 ∧ 0 ≤ 6 from by omega) (by omega) (by omega) (by omega) (by omega) (by omega) (by omega) (((up_c (pn hP rfl rfl)).trans ((up_n (by decide)).trans ((up_n (by decide)).trans ((up_n (by decide)).trans ((up_n (by decide)).trans (up_e rfl))))))) (((show _ = c_185 41 3 from (up_n (by decide))).trans (by omega))) (((up_c (pn hP rfl rfl)).trans ((up_n (by decide)).trans (up_e rfl)))) (((up_c (pn hP rfl rfl)).trans (up_e rfl))) (((up_c (pn hP rfl rfl)).trans ((up_n (by decide)).trans ((up_n (by decide)).trans ((up_n (by decide)).trans (up_e rfl)))))) ((up_e rfl)) ((up_e rfl)) ((up_n (by decide))) (fun j => ((up_c (pn hP rfl rfl)).trans ((up_c (nn rfl)).trans ((up_c (nn rfl)).trans ((up_c (nn rfl)).trans ((up_c (nn rfl)).trans (up_c (nn rfl))))))).trans (hF j)) (fun j => ((up_c (nn rfl)).trans ((hF_187 43 j qn_78d42cb5c).trans (up_c (nn rfl)))).trans (hH j)) hU (rt_i1 ⟨by first | assumption | omega, by first | exact q_6d0a553af h_188 h_192 | omega, by first | exact q_a7ddc6b3b h_188 h_191 | omega, by first | assumption | omega⟩) (ce_le hA_225 (by omega)) hG_14 (fun c8 hI8 hF8 hR8 h_227 h_228 h_229 => fun e8 => rt_wd hR8 (Prod.mk.inj (Prod.mk.inj e8).2).1 hI8 hI_203))
      refine q_aload_n c_177_54 rfl (v_cv c_177_55 km_8_131 rfl rfl (Nat.le_of_ble_eq_true rfl) ⟨⟨rfl, rfl⟩, Nat.le_of_ble_eq_true rfl, rfl⟩ (Nat.le_of_ble_eq_true rfl) (Nat.le_of_ble_eq_true rfl) (q_aload_n c_152_0 rfl ?_))
      have h_230 := ir_1_5 hI_12
      have h_231 := ir_41_6 hI_203
      have h_232 := rt_ok hR_226 (by first | exact q_163d1c5eb h_15 h_16 | omega)
      have hro_hR_226 := rt_ok hR_226 (by first | exact q_163d1c5eb h_15 h_16 | omega)
      refine v_gi (z := 5) (v := (-1)) c_152_1 kf_8_102 rfl (Nat.le_of_ble_eq_true rfl) rfl rfl hro_hR_226.2.1 (q_iconst c_152_4 (v_ic_ne_f (t := 12) c_152_5 rfl (by decide) (q_iconst c_152_8 (q_goto (t := 13) c_152_9 rfl (v_zret c_152_13 rfl (by decide) (bk_inl (v_if_eq_f (t := 77) c_177_58 rfl (by decide) ?_)))))))
      refine q_aload_n c_177_61 rfl (v_cv c_177_62 km_8_211 rfl rfl (Nat.le_of_ble_eq_true rfl) ⟨⟨rfl, rfl⟩, Nat.le_of_ble_eq_true rfl, rfl⟩ (Nat.le_of_ble_eq_true rfl) (Nat.le_of_ble_eq_true rfl) (q_aload_n c_162_0 rfl ?_))
      have kn_233 : Hid (c_202 41 3 = c_185 41 3) := (hF_204 41 3 qn_d31ba9b5e).trans (up_n (by decide))
      have h_234 := nx_be (b := F) (e := c_185 41 3) (a := c_11 1 2) (by first | (clear ha1 hq0 h_1 hg_t9 h_2 hr_t9 h_15 h_16 h_79 h_80 h_82 h_181 h_182 h_183 h_189 h_190 h_191 h_192 h_193 h_211 h_206 h_212 h_207 h_213 h_208 h_214 h_230 h_231 h_232 h_83 h_209 h_210; omega) | omega)
      have h_235 : -2147483648 ≤ (F (nx F (c_185 41 3) (c_11 1 2))) ∧ (F (nx F (c_185 41 3) (c_11 1 2))) ≤ 2147483647 := by rw [← hF (nx F (c_185 41 3) (c_11 1 2))]; exact ir_2 hJ (nx F (c_185 41 3) (c_11 1 2))
      have h_236 := nx_n (b := F) (e := c_185 41 3) (a := c_11 1 2)
      have h_237 : (nx F (c_185 41 3) (c_11 1 2)) = (nx F y_4 (c_11 1 2)) := congrArg (fun z => nx F z (c_11 1 2)) (by omega)
      have h_238 : -2147483648 ≤ (H (nx F y_4 (c_11 1 2))) ∧ (H (nx F y_4 (c_11 1 2))) ≤ 2147483647 := by rw [← hH (nx F y_4 (c_11 1 2))]; exact ir_43 hI (nx F y_4 (c_11 1 2))
      have h_239 := hU (nx F y_4 (c_11 1 2)) (by first | exact q_c1bbacda5 h_79 h_81 | omega) (by first | (clear ha1 h_1 hg_t9 h_2 hr_t9 h_15 h_16 h_79 h_80 h_81 h_82 h_181 h_182 h_183 h_189 h_190 h_191 h_192 h_193 h_188 h_211 h_206 h_212 h_207 h_213 h_208 h_214 h_230 h_231 h_232 h_234 h_235 h_237 h_238 h_83 h_209 h_210 h_236; omega) | omega)
      have h_240 := hb_or (b := H) (e := c_185 41 3) (r := (nx F y_4 (c_11 1 2)))
      have h_241 := hb_bd (b := H) (e := c_185 41 3) (r := (nx F y_4 (c_11 1 2))) (lo := -2147483648) (hi := 2147483647) h_238 (by decide)
      refine v_cv c_162_1 km_8_114 rfl rfl (Nat.le_of_ble_eq_true rfl) ⟨⟨rfl, rfl⟩, Nat.le_of_ble_eq_true rfl, rfl⟩ (Nat.le_of_ble_eq_true rfl) (Nat.le_of_ble_eq_true rfl) (f_154 (e1 := c_185 41 3) (a9 := c_11 1 2) (B := H) (r8 := (nx F y_4 (c_11 1 2))) (r := (hb H (c_185 41 3) (nx F y_4 (c_11 1 2)))) hI_203 ((hid kn_233)) (hro_hR_226.2.2.1) (fun j => ((hF_204 43 j qn_9b8df3fcd).trans ((up_c (nn rfl)).trans ((hF_187 43 j qn_78d42cb5c).trans (up_c (nn rfl))))).trans (hH j)) (((nx_tr hU (h_79.1) (h_190.2)).trans (rfl)).trans h_237) rfl (fun c_242 hI_243 hF_244 h_245 => (bk_inl (q_pop c_162_4 rfl (q_aload_n c_162_5 rfl (v_gi (z := 4) (v := (nx F y_4 (c_11 1 2))) c_162_6 kf_8_108 rfl (Nat.le_of_ble_eq_true rfl) rfl rfl (h_245) (q_aload_n c_162_9 rfl ?_)))))))
      have kn_246 : Hid (c_242 41 3 = c_185 41 3) := (hF_244 41 3 (fun h => absurd h.2 (ni rfl))).trans (hid kn_233)
      refine v_gi (z := 3) (v := c_185 41 3) c_162_10 kf_8_111 rfl (Nat.le_of_ble_eq_true rfl) rfl rfl (hid kn_246) (v_ic_ge_f (t := 20) c_162_13 rfl ⟨by first | exact q_d3451e228 h_79 h_81 | omega, by first | (clear ha1 hq0 h_1 hg_t9 h_2 hr_t9 h_15 h_16 h_79 h_80 h_81 h_82 h_181 h_182 h_183 h_189 h_190 h_191 h_192 h_193 h_211 h_206 h_212 h_207 h_213 h_208 h_214 h_230 h_231 h_232 h_234 h_235 h_237 h_238 h_239 h_241 h_83 h_209 h_210 h_236 h_240; omega) | omega, (Int.le_trans h_190.2 (by decide))⟩ (q_iconst c_162_16 (q_goto (t := 21) c_162_17 rfl (v_zret c_162_21 rfl (by decide) (bk_inl (v_if_eq_f (t := 77) c_177_65 rfl (by decide) (q_aload_n c_177_68 rfl ?_)))))))
      refine q_iconst c_177_69 (q_aload_n c_177_70 rfl (v_gi (z := 4) (v := (nx F y_4 (c_11 1 2))) c_177_71 kf_8_108 rfl (Nat.le_of_ble_eq_true rfl) rfl rfl (h_245) (v_cv c_177_74 km_8_138 rfl rfl (Nat.le_of_ble_eq_true rfl) ⟨⟨rfl, rfl⟩, Nat.le_of_ble_eq_true rfl, rfl⟩ (Nat.le_of_ble_eq_true rfl) (Nat.le_of_ble_eq_true rfl) (q_aload_n c_153_0 rfl ?_))))
      have kn_247 : Hid (c_242 41 5 = (-1)) := (hF_244 41 5 (fun h => absurd h.2 (ni rfl))).trans hro_hR_226.2.1
      refine v_gi (z := 5) (v := (-1)) c_153_1 kf_8_102 rfl (Nat.le_of_ble_eq_true rfl) rfl rfl (hid kn_247) (q_iconst c_153_4 (v_ic_eq_t (t := 9) c_153_5 rfl (by decide) (q_aload_n c_153_9 rfl (q_iload_n c_153_10 rfl (v_pi (z := 5) c_153_11 kf_8_102 rfl (Nat.le_of_ble_eq_true rfl) rfl rfl rfl (by decide) (q_aload_n c_153_14 rfl (q_iload_n c_153_15 rfl ?_)))))))
      refine v_pi (z := 6) c_153_16 kf_8_105 rfl (Nat.le_of_ble_eq_true rfl) rfl rfl rfl (by decide) (q_vret rfl rfl (bk_inl (q_aload_n c_177_77 rfl (q_iconst c_177_78 (v_cv c_177_79 km_8_232 rfl rfl (Nat.le_of_ble_eq_true rfl) ⟨⟨rfl, rfl⟩, Nat.le_of_ble_eq_true rfl, rfl⟩ (Nat.le_of_ble_eq_true rfl) (Nat.le_of_ble_eq_true rfl) (q_aload_n c_164_0 rfl (q_aload_n c_164_1 rfl ?_)))))))
      refine v_gi (z := 5) (v := (nx F y_4 (c_11 1 2))) c_164_2 kf_8_102 rfl (Nat.le_of_ble_eq_true rfl) rfl rfl ((up_n (by decide)).trans (up_e rfl)) (v_pi (z := 8) c_164_5 kf_8_17 rfl (Nat.le_of_ble_eq_true rfl) rfl rfl rfl (by decide) (q_aload_n c_164_8 rfl (v_cv c_164_9 km_8_131 rfl rfl (Nat.le_of_ble_eq_true rfl) ⟨⟨rfl, rfl⟩, Nat.le_of_ble_eq_true rfl, rfl⟩ (Nat.le_of_ble_eq_true rfl) (Nat.le_of_ble_eq_true rfl) (q_aload_n c_152_0 rfl (v_gi (z := 5) (v := (nx F y_4 (c_11 1 2))) c_152_1 kf_8_102 rfl (Nat.le_of_ble_eq_true rfl) rfl rfl ((up_n (by decide)).trans ((up_n (by decide)).trans (up_e rfl))) (q_iconst c_152_4 (v_ic_ne_t (t := 12) c_152_5 rfl ⟨by first | exact q_510fc7fc1 h_79 h_81 | omega, ⟨by first | exact q_d3451e228 h_79 h_81 | omega, by first | exact q_783468581 h_182 h_183 | omega⟩, by decide, by decide⟩ ?_)))))))
      refine q_iconst c_152_12 (v_zret c_152_13 rfl (by decide) (bk_inl (v_if_eq_t (t := 19) c_164_12 rfl (by decide) (q_aload_n c_164_19 rfl (v_gi (z := 6) (v := 1) c_164_20 kf_8_105 rfl (Nat.le_of_ble_eq_true rfl) rfl rfl ((up_n (by decide)).trans (up_e rfl)) (v_bip c_164_23 (by decide) (v_isub (v := (-9)) c_164_25 (by decide) ?_)))))))
      refine q_iret c_164_26 rfl (bk_inl (q_istore_n c_177_82 (Nat.le_of_ble_eq_true rfl) (q_aload_n c_177_83 rfl (v_gi (z := 5) (v := (nx F y_4 (c_11 1 2))) c_177_84 kf_8_102 rfl (Nat.le_of_ble_eq_true rfl) rfl rfl ((up_n (by decide)).trans ((up_n (by decide)).trans (up_e rfl))) (q_iconst c_177_87 (v_ic_eq_f (t := 93) c_177_88 rfl ⟨by first | exact q_510fc7fc1 h_79 h_81 | omega, ⟨by first | exact q_d3451e228 h_79 h_81 | omega, by first | exact q_783468581 h_182 h_183 | omega⟩, by decide, by decide⟩ (q_iload_n c_177_91 rfl ?_)))))))
      refine q_iret c_177_92 rfl ?_
      have hI_248 := iw_41_5 (v := (nx F y_4 (c_11 1 2))) hI_243 ⟨by first | exact q_27a274ef3 h_79 h_81 | omega, by first | (clear ha1 h_1 hg_t9 h_2 hr_t9 h_15 h_16 h_79 h_80 h_81 h_82 h_181 h_182 h_183 h_189 h_190 h_191 h_192 h_193 h_188 h_211 h_206 h_212 h_207 h_213 h_208 h_214 h_230 h_231 h_232 h_234 h_235 h_237 h_238 h_239 h_241 h_83 h_209 h_210 h_236 h_240; omega) | omega⟩
      have hI_249 := iw_41_6 (v := 1) hI_248 ⟨by decide, by decide⟩
      have hI_250 := iw_41_8 (v := (nx F y_4 (c_11 1 2))) hI_249 ⟨by first | exact q_27a274ef3 h_79 h_81 | omega, by first | (clear ha1 h_1 hg_t9 h_2 hr_t9 h_15 h_16 h_79 h_80 h_81 h_82 h_181 h_182 h_183 h_189 h_190 h_191 h_192 h_193 h_188 h_211 h_206 h_212 h_207 h_213 h_208 h_214 h_230 h_231 h_232 h_234 h_235 h_237 h_238 h_239 h_241 h_83 h_209 h_210 h_236 h_240; omega) | omega⟩
      have kn_251 : Hid (c_202 41 2 = c_185 41 2) := (hF_204 41 2 qn_6ef24e77f).trans (up_n (by decide))
      have kn_252 : Hid (c_242 41 2 = c_185 41 2) := (hF_244 41 2 (fun h => absurd h.2 (ni rfl))).trans (hid kn_251)
      have h_253 : (up (up (up c_242 41 5 (nx F y_4 (c_11 1 2))) 41 6 1) 41 8 (nx F y_4 (c_11 1 2))) 41 2 = c_185 41 2 := ((up_n (by decide)).trans ((up_n (by decide)).trans ((up_n (by decide)).trans (hid kn_252))))
      have h_254 : (up (up (up c_242 41 5 (nx F y_4 (c_11 1 2))) 41 6 1) 41 8 (nx F y_4 (c_11 1 2))) 41 8 = (nx F y_4 (c_11 1 2)) := (up_e rfl)
      have kn_255 : Hid (c_185 41 0 = 0) := (hF_187 41 0 qn_18af663b8).trans (up_e rfl)
      have kn_256 : Hid (c_202 41 0 = 0) := (hF_204 41 0 qn_d0959c513).trans ((up_n (by decide)).trans (hid kn_255))
      have kn_257 : Hid (c_242 41 0 = 0) := (hF_244 41 0 (fun h => absurd h.2 (ni rfl))).trans (hid kn_256)
      have h_258 : (up (up (up c_242 41 5 (nx F y_4 (c_11 1 2))) 41 6 1) 41 8 (nx F y_4 (c_11 1 2))) 41 0 = 0 := ((up_n (by decide)).trans ((up_n (by decide)).trans ((up_n (by decide)).trans (hid kn_257))))
      exact K (up (up (up c_242 41 5 (nx F y_4 (c_11 1 2))) 41 6 1) 41 8 (nx F y_4 (c_11 1 2))) (-9) hI_250 (fun a j hm => (up_b (Decidable.or_iff_not_imp_left.mpr (fun h1 h2 => hm (Or.inr (Or.inr (Or.inr (Or.inr (Or.inr (Or.inr (Or.inr (Or.inr (Or.inl ⟨Decidable.not_not.mp h1, h2⟩)))))))))))).trans ((up_b (Decidable.or_iff_not_imp_left.mpr (fun h1 h2 => hm (Or.inr (Or.inr (Or.inr (Or.inr (Or.inr (Or.inr (Or.inl ⟨Decidable.not_not.mp h1, h2⟩)))))))))).trans ((up_b (Decidable.or_iff_not_imp_left.mpr (fun h1 h2 => hm (Or.inr (Or.inr (Or.inr (Or.inr (Or.inr (Or.inl ⟨Decidable.not_not.mp h1, h2⟩))))))))).trans ((hF_244 a j (fun h => hm (Or.inr (Or.inr (Or.inr (Or.inr (Or.inl h))))))).trans ((hF_204 a j (qv_64dbd55b6 hm)).trans ((up_b (Decidable.or_iff_not_imp_left.mpr (fun h1 h2 => hm (Or.inr (Or.inr (Or.inr (Or.inr (Or.inr (Or.inr (Or.inr (Or.inr (Or.inr (Or.inl ⟨Decidable.not_not.mp h1, h2⟩))))))))))))).trans ((hF_187 a j (qv_514f8c9e5 hm)).trans (up_b (Decidable.or_iff_not_imp_left.mpr (fun h1 h2 => hm (Or.inl ⟨Decidable.not_not.mp h1, h2⟩))))))))))) ⟨by omega, by omega⟩ (by first | exact q_6c173ba1b h_181 | omega) (by first | exact q_59baff7b3 h_188 h_189 | omega) (by first | exact q_88dc5fb99 h_183 | omega) (by first | assumption | omega)

set_option maxRecDepth 100000 in
set_option maxHeartbeats 4000000 in
theorem s_202cx {sc : List Int32} {d P Q : Nat} {c : ME} {Z : AR → Prop} (hI : Iv 0 (-1) P Q c) (hq0 : (c 41 35 ≤ 15)) (hq1 : (((c 41 34) % 5) = 0)) (hq2 : (c 41 34 ≤ 250)) (K : ∀ (c2 : ME) (y : Int), Iv 0 (-1) P Q c2 → (∀ (a : Nat) (j : Int), ¬ ((a = 41 ∧ j = 35) ∨ (a = 41 ∧ j = 36) ∨ (a = 41 ∧ j = 37) ∨ (a = 41 ∧ j = 38) ∨ (a = 41 ∧ j = 39) ∨ a = 58 ∨ a = 59 ∨ a = 54 ∨ a = 55) → c2 a j = c a j) → (-2147483648) ≤ y ∧ y ≤ 2147483647 → ((c2 41 35 = c 41 35 + 1)) → Z (.inl (some (vi y)), Wd P Q P P c2, 0, 0)) : Wp sc (d + 67) 202 155 [(0, .ref 41)] [] (Wd P Q P P c) 0 0 Z := by
  have hP := iv_P hI
  have hQ := iv_Q hI
  have h_1 := ir_41_35 hI
  have h_2 := ir_41_34 hI
  refine q_aload_n c_202_155 rfl (q_dup c_202_156 rfl (v_gi (z := 35) (v := c 41 35) c_202_157 kf_8_182 rfl (Nat.le_of_ble_eq_true rfl) rfl rfl rfl (q_iconst c_202_160 (v_iadd (v := c 41 35 + 1) c_202_161 rfl (v_pi (z := 35) c_202_162 kf_8_182 rfl (Nat.le_of_ble_eq_true rfl) rfl rfl rfl (by decide) (q_aload_n c_202_165 rfl ?_))))))
  have hI_3 := iw_41_35 (v := c 41 35 + 1) hI ⟨by first | exact rgp_l h_1.1 (by decide) | omega, by first | exact q_f67065af8 hq0 | omega⟩
  refine v_cv c_202_166 km_8_317 rfl rfl (Nat.le_of_ble_eq_true rfl) ⟨⟨rfl, rfl⟩, Nat.le_of_ble_eq_true rfl, rfl⟩ (Nat.le_of_ble_eq_true rfl) (Nat.le_of_ble_eq_true rfl) (s_186 hI_3 (fun c_4 hI_5 hF_6 => (bk_inl (q_aload_n c_202_169 rfl (q_iconst c_202_170 (v_pi (z := 37) c_202_171 kf_8_320 rfl (Nat.le_of_ble_eq_true rfl) rfl rfl rfl (by decide) (q_aload_n c_202_174 rfl (q_iconst c_202_175 (v_pi (z := 38) c_202_176 kf_8_323 rfl (Nat.le_of_ble_eq_true rfl) rfl rfl rfl (by decide) ?_)))))))))
  refine q_aload_n c_202_179 rfl (q_iconst c_202_180 (v_pi (z := 39) c_202_181 kf_8_326 rfl (Nat.le_of_ble_eq_true rfl) rfl rfl rfl (by decide) (q_aload_n c_202_184 rfl (q_iconst c_202_185 (q_aload_n c_202_186 rfl ?_)))))
  have kn_7 : Hid (c_4 41 34 = c 41 34) := (hF_6 41 34 (fun h => absurd h (nn rfl))).trans (up_n (by decide))
  refine v_gi (z := 34) (v := c 41 34) c_202_187 kf_8_284 rfl (Nat.le_of_ble_eq_true rfl) rfl rfl ((up_n (by decide)).trans ((up_n (by decide)).trans ((up_n (by decide)).trans (hid kn_7)))) ?_
  have hI_8 := iw_41_37 (v := 0) hI_5 ⟨by decide, by decide⟩
  have hI_9 := iw_41_38 (v := 0) hI_8 ⟨by decide, by decide⟩
  have hI_10 := iw_41_39 (v := 0) hI_9 ⟨by decide, by decide⟩
  have h_11 : (up (up (up c_4 41 37 0) 41 38 0) 41 39 0) 41 37 = 0 := ((up_n (by decide)).trans ((up_n (by decide)).trans (up_e rfl)))
  refine v_cv c_202_190 km_8_329 rfl rfl (Nat.le_of_ble_eq_true rfl) ⟨⟨rfl, rfl⟩, Nat.le_of_ble_eq_true rfl, rfl⟩ (Nat.le_of_ble_eq_true rfl) (Nat.le_of_ble_eq_true rfl) (r_201 (t := 0) (a2 := c 41 34) hI_10 (show 0 ≤ 0 ∧ 0 ≤ 50 from by omega) (show 0 ≤ c 41 34 ∧ c 41 34 ≤ 250 from h_2) (fun c_12 hI_13 hF_14 h_15 => (bk_inl ?_)))
  have h_16 := ir_41_37 hI_13
  refine q_aload_n c_202_193 rfl (q_aload_n c_202_194 rfl (v_gr (t := 59) c_202_195 kf_8_68 rfl (Nat.le_of_ble_eq_true rfl) rfl (q_aload_n c_202_198 rfl (v_gr (t := 58) c_202_199 kf_8_65 rfl (Nat.le_of_ble_eq_true rfl) rfl (v_bip c_202_202 (by decide) (v_cv c_202_204 km_8_169 rfl rfl (Nat.le_of_ble_eq_true rfl) ⟨⟨rfl, rfl⟩, Nat.le_of_ble_eq_true rfl, rfl⟩ (Nat.le_of_ble_eq_true rfl) (Nat.le_of_ble_eq_true rfl) (s_148 (f := 59) (t := 58) (nf := 37) (nt := 37) (n := 37) rfl rfl (by decide) (by decide) (by decide) (by decide) (by decide) (by omega) (bk_inl ?_))))))))
  refine q_aload_n c_202_207 rfl (q_aload_n c_202_208 rfl ?_)
  have h_17 := ir_41_39 hI_13
  refine v_gi (z := 39) (v := c_12 41 39) c_202_209 kf_8_326 rfl (Nat.le_of_ble_eq_true rfl) rfl rfl (upc_c (by omega)) (v_pi (z := 36) c_202_212 kf_8_188 rfl (Nat.le_of_ble_eq_true rfl) rfl rfl rfl (by decide) (q_aload_n c_202_215 rfl ?_))
  have h_18 := ir_41_38 hI_13
  refine v_gi (z := 38) (v := c_12 41 38) c_202_216 kf_8_323 rfl (Nat.le_of_ble_eq_true rfl) rfl rfl ((up_n (by decide)).trans (upc_c (by omega))) (q_iret c_202_219 rfl ?_)
  have hI_19 := cp_59_58 hI_13
  have hI_20 := iw_41_36 (v := c_12 41 39) hI_19 ⟨h_17.1, h_17.2⟩
  have kn_21 : Hid (c_4 41 35 = c 41 35 + 1) := (hF_6 41 35 (fun h => absurd h (nn rfl))).trans (up_e rfl)
  have kn_22 : Hid (c_12 41 35 = c 41 35 + 1) := (hF_14 41 35 qn_87df51461).trans ((up_n (by decide)).trans ((up_n (by decide)).trans ((up_n (by decide)).trans (hid kn_21))))
  have h_23 : (up (upc c_12 59 0 58 0 37) 41 36 (c_12 41 39)) 41 35 = c 41 35 + 1 := ((up_n (by decide)).trans ((upc_c (by omega)).trans (hid kn_22)))
  exact K (up (upc c_12 59 0 58 0 37) 41 36 (c_12 41 39)) (c_12 41 38) hI_20 (fun a j hm => (up_b (Decidable.or_iff_not_imp_left.mpr (fun h1 h2 => hm (Or.inr (Or.inl ⟨Decidable.not_not.mp h1, h2⟩))))).trans ((upc_c (fun h => hm (Or.inr (Or.inr (Or.inr (Or.inr (Or.inr (Or.inl h)))))))).trans ((hF_14 a j (qv_c2f2b1db7 hm)).trans ((up_b (Decidable.or_iff_not_imp_left.mpr (fun h1 h2 => hm (Or.inr (Or.inr (Or.inr (Or.inr (Or.inl ⟨Decidable.not_not.mp h1, h2⟩)))))))).trans ((up_b (Decidable.or_iff_not_imp_left.mpr (fun h1 h2 => hm (Or.inr (Or.inr (Or.inr (Or.inl ⟨Decidable.not_not.mp h1, h2⟩))))))).trans ((up_b (Decidable.or_iff_not_imp_left.mpr (fun h1 h2 => hm (Or.inr (Or.inr (Or.inl ⟨Decidable.not_not.mp h1, h2⟩)))))).trans ((hF_6 a j (fun h => hm (Or.inr (Or.inr (Or.inr (Or.inr (Or.inr (Or.inr (Or.inl h))))))))).trans (up_b (Decidable.or_iff_not_imp_left.mpr (fun h1 h2 => hm (Or.inl ⟨Decidable.not_not.mp h1, h2⟩))))))))))) h_18 (by first | assumption | omega)

set_option maxRecDepth 100000 in
set_option maxHeartbeats 4000000 in
theorem s_202bx_l {sc : List Int32} {d P Q : Nat} {c : ME} {Z : AR → Prop} (hI : Iv 60 (-1) P Q c) (hq0 : (c 41 35 ≤ 15)) (hq1 : (((c 41 34) % 5) = 0)) (hq2 : (c 41 34 ≤ 250)) (hq3 : ∀ j : Int, rs 60 j → c 60 j + c 60 (j + 1) + c 60 (j + 2) + c 60 (j + 3) ≤ 9999) (K : ∀ (c2 : ME) (y : Int), Iv 0 (-1) P Q c2 → (∀ (a : Nat) (j : Int), ¬ ((a = 41 ∧ j = 35) ∨ (a = 41 ∧ j = 36) ∨ (a = 41 ∧ j = 37) ∨ (a = 41 ∧ j = 38) ∨ (a = 41 ∧ j = 39) ∨ a = 58 ∨ a = 59 ∨ a = 54 ∨ a = 55 ∨ a = 60) → c2 a j = c a j) → (-2147483648) ≤ y ∧ y ≤ 2147483647 → ((c2 41 35 = c 41 35 + 1)) → Z (.inl (some (vi y)), Wd P Q P P c2, 0, 0)) : ∀ n : Nat, (∀ (c2 : ME) (v3 : Int), Iv 60 (-1) P Q c2 → (∀ (a : Nat) (j : Int), ¬ (a = 60) → c2 a j = c a j) → 0 ≤ v3 ∧ v3 ≤ 37 → (∀ j : Int, 0 ≤ j → j < v3 → c2 60 (37 * c 41 35 + j) = c 58 j) → (∀ j : Int, ¬ (37 * c 41 35 ≤ j ∧ j < 37 * c 41 35 + 37) → c2 60 j = c 60 j) → 75 - 2 * v3 < (n : Int) → Wp sc (d + 67) 202 123 [(0, .ref 41), (3, vi v3)] [] (Wd P Q P P c2) 0 0 Z)
  | 0 => by intro c2 v3 hI2 hF hv3 hx0 hx1 hm9; have hP := iv_P hI; have hQ := iv_Q hI; exfalso; omega
  | n + 1 => by
    have hP := iv_P hI
    have hQ := iv_Q hI
    have ih := s_202bx_l (sc := sc) (d := d) hI hq0 hq1 hq2 hq3 K n
    intro c2 v3 hI2 hF hv3 hx0 hx1 hm9
    have h_1 := ir_41_35 hI
    have h_2 := ir_41_34 hI
    refine q_iload_n c_202_123 rfl (v_bip c_202_124 (by decide) ?_)
    by_cases h_3 : v3 ≥ 37
    · refine v_ic_ge_t (t := 155) c_202_126 rfl ⟨by decide, h_3, (Int.le_trans hv3.2 (by decide))⟩ (Wp_ls [(0, .ref 41)] (lsub_cons rfl lsub_nil) ?_)
      have hc9 : Iv 0 (-1) P Q c2 := iv_close hI2 (fun j hj => by
        by_cases q9 : 37 * c 41 35 ≤ j ∧ j < 37 * c 41 35 + 37
        · rw [ri_60] at hj
          have h8 : j / 37 = c 41 35 := by omega
          obtain ⟨i9, hi9⟩ : ∃ i : Int, j = 37 * c 41 35 + i := ⟨j - 37 * c 41 35, by omega⟩
          subst hi9
          rw [show 37 * c 41 35 + i9 + 1 = 37 * c 41 35 + (i9 + 1) by omega, show 37 * c 41 35 + i9 + 2 = 37 * c 41 35 + (i9 + 2) by omega, show 37 * c 41 35 + i9 + 3 = 37 * c 41 35 + (i9 + 3) by omega, hx0 i9 (by omega) (by omega), hx0 (i9 + 1) (by omega) (by omega), hx0 (i9 + 2) (by omega) (by omega), hx0 (i9 + 3) (by omega) (by omega)]
          exact iv_r hI 58 i9 (by rw [ri_58]; omega) (by omega)
        · have hj9 := hj
          rw [ri_60] at hj9
          have h7 : ¬ j / 37 = c 41 35 := by omega
          rw [hx1 j q9, hx1 (j + 1) (by omega), hx1 (j + 2) (by omega), hx1 (j + 3) (by omega)]
          exact hq3 j hj)
      exact s_202cx hc9 (by rw [hF 41 35 (by omega)]; omega) (by rw [hF 41 34 (by omega)]; omega) (by rw [hF 41 34 (by omega)]; omega) (fun c9 y9 hI9 hF9 hy9 hp9 => K c9 y9 hI9 (fun a j hm => (hF9 a j (by omega)).trans (hF a j (by omega))) hy9 (by rw [hp9, hF 41 35 (by omega)]))
    · refine v_ic_ge_f (t := 155) c_202_126 rfl ⟨(Int.le_trans (by decide) hv3.1), (Int.not_le.mp h_3), by decide⟩ (q_aload_n c_202_129 rfl (v_gr (t := 60) c_202_130 kf_8_71 rfl (Nat.le_of_ble_eq_true rfl) rfl (v_bip c_202_133 (by decide) (q_aload_n c_202_135 rfl ?_))))
      have kn_4 : Hid (c2 41 35 = c 41 35) := hF 41 35 (fun h => absurd h (nn rfl))
      refine v_gi (z := 35) (v := c 41 35) c_202_136 kf_8_182 rfl (Nat.le_of_ble_eq_true rfl) rfl rfl (hid kn_4) (v_imul (v := 37 * c 41 35) c_202_139 (by omega) (q_iload_n c_202_140 rfl (v_iadd (v := 37 * c 41 35 + v3) c_202_141 rfl (q_aload_n c_202_142 rfl (v_gr (t := 58) c_202_143 kf_8_65 rfl (Nat.le_of_ble_eq_true rfl) rfl (q_iload_n c_202_146 rfl ?_))))))
      have h_5 := ir_58 hI v3
      have kn_6 : Hid (c2 58 v3 = c 58 v3) := hF 58 v3 (fun h => absurd h (nn rfl))
      refine v_ia (v := c 58 v3) c_202_147 rfl (by decide) (by decide) ⟨hv3.1, by first | exact q_3cc4a238e h_3 | omega⟩ (hid kn_6) (v_is c_202_148 rfl (by decide) (by decide) ⟨by first | exact q_6c1724e14 h_1 hv3 | omega, by first | exact q_d8bb91acd h_3 hq0 | omega⟩ (v_iinc (v := v3 + 1) c_202_149 rfl (Nat.le_of_ble_eq_true rfl) rfl (q_goto (t := 123) c_202_152 rfl ?_)))
      have hI_7 := iw_60 (j := 37 * c 41 35 + v3) (v := c 58 v3) hI2 (fun h9 => ir_58_g hI (by omega)) ⟨by omega, by omega⟩
      refine Wp_ls [(0, .ref 41), (3, vi (v3 + 1))] (lsub_cons rfl (lsub_cons rfl lsub_nil)) ?_
      have hr_8 : ∀ j : Int, 0 ≤ j → j < v3 + 1 → (up c2 60 (37 * c 41 35 + v3) (c 58 v3)) 60 (37 * c 41 35 + j) = c 58 j := by
        intro j hj1 hj2
        by_cases e9 : j = v3
        · rw [show (up c2 60 (37 * c 41 35 + v3) (c 58 v3)) 60 (37 * c 41 35 + j) = c 58 v3 from up_e (by omega), e9]
        · rw [show (up c2 60 (37 * c 41 35 + v3) (c 58 v3)) 60 (37 * c 41 35 + j) = c2 60 (37 * c 41 35 + j) from up_n (by omega)]; exact hx0 j hj1 (by omega)
      have hr_9 : ∀ j : Int, ¬ (37 * c 41 35 ≤ j ∧ j < 37 * c 41 35 + 37) → (up c2 60 (37 * c 41 35 + v3) (c 58 v3)) 60 j = c 60 j := by
        intro j hj1
        rw [show (up c2 60 (37 * c 41 35 + v3) (c 58 v3)) 60 j = c2 60 j from up_n (by omega)]; exact hx1 j hj1
      exact ih (up c2 60 (37 * c 41 35 + v3) (c 58 v3)) (v3 + 1) hI_7 (fun a j hm => (up_b (Decidable.or_iff_not_imp_left.mpr (fun h1 h2 => hm (Decidable.not_not.mp h1)))).trans (hF a j hm)) ⟨by first | exact rgp_l hv3.1 (by decide) | omega, by first | exact q_6a0ddf4b6 h_3 | omega⟩ hr_8 hr_9 (by omega)
set_option maxRecDepth 100000 in
set_option maxHeartbeats 4000000 in
theorem s_202bx {sc : List Int32} {d P Q : Nat} {c : ME} {Z : AR → Prop} (hI : Iv 60 (-1) P Q c) (hq0 : (c 41 35 ≤ 15)) (hq1 : (((c 41 34) % 5) = 0)) (hq2 : (c 41 34 ≤ 250)) (hq3 : ∀ j : Int, rs 60 j → c 60 j + c 60 (j + 1) + c 60 (j + 2) + c 60 (j + 3) ≤ 9999) (K : ∀ (c2 : ME) (y : Int), Iv 0 (-1) P Q c2 → (∀ (a : Nat) (j : Int), ¬ ((a = 41 ∧ j = 35) ∨ (a = 41 ∧ j = 36) ∨ (a = 41 ∧ j = 37) ∨ (a = 41 ∧ j = 38) ∨ (a = 41 ∧ j = 39) ∨ a = 58 ∨ a = 59 ∨ a = 54 ∨ a = 55 ∨ a = 60) → c2 a j = c a j) → (-2147483648) ≤ y ∧ y ≤ 2147483647 → ((c2 41 35 = c 41 35 + 1)) → Z (.inl (some (vi y)), Wd P Q P P c2, 0, 0)) : Wp sc (d + 67) 202 121 [(0, .ref 41)] [] (Wd P Q P P c) 0 0 Z := by
  have hP := iv_P hI
  have hQ := iv_Q hI
  have h_10 := ir_41_35 hI
  have h_11 := ir_41_34 hI
  refine q_iconst c_202_121 (q_istore_n c_202_122 (Nat.le_of_ble_eq_true rfl) (Wp_ls [(0, .ref 41), (3, vi 0)] (lsub_cons rfl (lsub_cons rfl lsub_nil)) ?_))
  have hr_12 : ∀ j : Int, 0 ≤ j → j < 0 → c 60 (37 * c 41 35 + j) = c 58 j := by
    intro j hj1 hj2
    omega
  have hr_13 : ∀ j : Int, ¬ (37 * c 41 35 ≤ j ∧ j < 37 * c 41 35 + 37) → c 60 j = c 60 j := by
    intro j hj1
    rfl
  exact (s_202bx_l (sc := sc) (d := d) hI hq0 hq1 hq2 hq3 K 78) c 0 hI (fun a j hm => rfl) ⟨by decide, by decide⟩ hr_12 hr_13 (by omega)

set_option maxRecDepth 100000 in
set_option maxHeartbeats 4000000 in
theorem L_38 {sc : List Int32} {e eg : Int} {d dh u ug P Q P2 Q2 : Nat} {c m m9 : ME} {yg e1 a9 f0 : Int} {F H : Int → Int} {Z : AR → Prop} (hI : Iv u e P2 Q2 c) (hJ : Iv ug eg P Q m) (hJ9 : Iv ug eg P Q m9) (hyg : 0 ≤ yg ∧ yg ≤ 999) (hg_e1 : m 1 1 = e1) (hr_e1 : c 41 3 = e1) (hg_a9 : m 1 2 = a9) (hg_f0 : m 1 4 = f0) (hF : ∀ j : Int, m 2 j = F j) (hH : ∀ j : Int, c 43 j = H j) (hU : Ub F H) (hRt : Rt m c) (hG : Wp sc (dh + 16) 38 0 [(0, .ref 1)] [] (Wd P Q P P m) 0 0 (fun q => q = (.inl (some (vi yg)), Wd P Q P P m9, 0, 0))) (K : ∀ (c2 : ME) (y : Int), Iv u e P2 Q2 c2 → (∀ (a : Nat) (j : Int), ¬ ((a = 41 ∧ j = 4) ∨ (a = 41 ∧ j = 5) ∨ (a = 41 ∧ j = 6)) → c2 a j = c a j) → 0 ≤ y ∧ y ≤ 9999 → (Rt m9 c2) → ((y = yg)) → ((m9 1 4 < 0) ∨ (m9 1 4 > 0) ∨ (m9 1 2 > a9 ∧ m9 1 2 ≤ e1)) → ((m9 1 4 < 0) ∨ (m9 1 4 > 0) ∨ (f0 = 0)) → ((m9 1 4 < 0) ∨ (m9 1 4 > 0) ∨ (y ≥ 1)) → Z (.inl (some (vi y)), Wd P2 Q2 P2 P2 c2, 0, 0)) : Wp sc (d + 14) 160 0 [(0, .ref 41), (1, vi 1), (2, vi 999)] [] (Wd P2 Q2 P2 P2 c) 0 0 Z := by
  have hP := iv_P hJ
  have hQ := iv_Q hJ
  have h_1 := ir_1_1 hJ
  have h_2 := ir_41_3 hI
  have h_3 := ir_1_2 hJ
  have h_4 := ir_1_4 hJ
  refine gh hG ?_
  by_cases hs9 : m 1 4 = 0
  · skip
    have hs8 := (rt_ok hRt hs9).2.2.2
    refine q_aload_n c_38_0 rfl ?_
    have h_5 : -2147483648 ≤ (F a9) ∧ (F a9) ≤ 2147483647 := by rw [← hF a9]; exact ir_2 hJ a9
    have h_6 := nx_bd (b := F) (e := e1) (a := a9)
    have h_7 : -2147483648 ≤ (F (nx F e1 a9)) ∧ (F (nx F e1 a9)) ≤ 2147483647 := by rw [← hF (nx F e1 a9)]; exact ir_2 hJ (nx F e1 a9)
    have h_8 := nx_n (b := F) (e := e1) (a := a9)
    refine v_cv c_38_1 km_3_42 rfl rfl (Nat.le_of_ble_eq_true rfl) ⟨⟨rfl, rfl⟩, Nat.le_of_ble_eq_true rfl, rfl⟩ (Nat.le_of_ble_eq_true rfl) (Nat.le_of_ble_eq_true rfl) (f_3 (e1 := e1) (a9 := a9) (B := F) (r8 := (nx F e1 a9)) hJ ((hg_e1)) ((hg_a9)) (fun j => hF j) rfl (fun c_9 hI_10 hF_11 hz_12 => (bk_inl (q_istore_n c_38_4 (Nat.le_of_ble_eq_true rfl) (q_aload_n c_38_5 rfl (v_sip c_38_6 (by decide) ?_))))))
    have kn_13 : Hid (c_9 1 1 = e1) := (hF_11 1 1 (fun h => absurd h.2 (ni rfl))).trans (hg_e1)
    have kn_14 : Hid (c_9 1 4 = 0) := (hF_11 1 4 (fun h => absurd h.2 (ni rfl))).trans (hs9)
    have kn_15 : Hid (c_9 1 5 = (-1)) := (hF_11 1 5 (fun h => absurd h.2 (ni rfl))).trans (hs8)
    have h_16 := dg_bd (b := F) (e := e1) (a := (nx F e1 a9)) (v := 0) (by decide)
    have h_17 := dg_p (b := F) (e := e1) (a := (nx F e1 a9)) (v := 0) (by decide)
    refine v_cv c_38_9 km_3_73 rfl rfl (Nat.le_of_ble_eq_true rfl) ⟨⟨rfl, rfl⟩, Nat.le_of_ble_eq_true rfl, rfl⟩ (Nat.le_of_ble_eq_true rfl) (Nat.le_of_ble_eq_true rfl) (f_8 (a1 := 999) (e1 := e1) (a9 := (nx F e1 a9)) (f9 := 0) (p9 := (-1)) (B := F) (r8 := (nx F e1 a9)) (D8 := (dg F e1 (nx F e1 a9) 0).1) (V8 := (dg F e1 (nx F e1 a9) 0).2) hI_10 (show (-1) ≤ 999 ∧ 999 ≤ 9999 from ⟨by decide, by decide⟩) ((hid kn_13)) ((hz_12)) ((hid kn_14)) ((hid kn_15)) (fun j => (hF_11 2 j (fun h => absurd h.1 (nn rfl))).trans (hF j)) (nx_z (by omega)) rfl rfl (fun c_18 hI_19 hF_20 h_21 hz_22 hz_23 hz_24 => by exfalso; first | (clear h_1 hg_e1 h_2 hr_e1 h_3 hg_a9 h_4 hg_f0 h_5 h_6 h_7 h_16 h_8 h_17; omega) | omega) (fun c_25 hI_26 hF_27 h_28 h_29 hz_30 hz_31 hz_32 => ?_) (fun c_33 hI_34 hF_35 h_36 h_37 h_38 hz_39 hz_40 hz_41 => ?_) (fun c_42 hI_43 hF_44 h_45 h_46 h_47 hz_48 hz_49 hz_50 => ?_))
    · skip
      refine bk_inl (q_istore_n c_38_12 (Nat.le_of_ble_eq_true rfl) (q_iload_n c_38_13 rfl (v_if_ne_f (t := 23) c_38_14 rfl (by decide) (q_aload_n c_38_17 rfl (q_iconst c_38_18 (q_iload_n c_38_19 rfl (v_cv c_38_20 km_3_51 rfl rfl (Nat.le_of_ble_eq_true rfl) ⟨⟨rfl, rfl⟩, Nat.le_of_ble_eq_true rfl, rfl⟩ (Nat.le_of_ble_eq_true rfl) (Nat.le_of_ble_eq_true rfl) ?_)))))))
      refine q_aload_n c_7_0 rfl (v_gi (z := 4) (v := 1) c_7_1 kf_5_38 rfl (Nat.le_of_ble_eq_true rfl) rfl rfl (hz_31) (v_if_ne_t (t := 17) c_7_4 rfl (by decide) (q_vret rfl rfl (bk_inl (q_iload_n c_38_23 rfl (q_iret c_38_24 rfl ?_))))))
      intro hE_51
      have h_52 : yg = 0 := (vi_inj ⟨by omega, by omega⟩ ⟨by omega, by omega⟩ (Option.some.inj (Sum.inl.inj (Prod.mk.inj hE_51).1))).symm
      have hW : Wd P Q P P c_25 = Wd P Q P P m9 := (Prod.mk.inj (Prod.mk.inj hE_51).2).1
      have h_53 := ir_1_4 hJ9
      have h_54 : m9 1 4 = 1 := wd_fv (z := 4) 4 rfl hW rfl rfl rfl rfl (by decide) (hz_31) ⟨by decide, by decide⟩ ⟨(Int.le_trans (by decide) h_53.1), (Int.le_trans h_53.2 (by decide))⟩
      have h_55 := ir_1_2 hJ9
      have h_56 : m9 1 2 = (nx F e1 a9) := wd_fv (z := 2) 2 rfl hW rfl rfl rfl rfl (by decide) (hz_30) ⟨by first | exact q_a3bce4abb h_3 h_6 hg_a9 | omega, by first | exact q_b3bd846dd h_2 h_3 h_6 hg_a9 hr_e1 | omega⟩ ⟨(Int.le_trans (by decide) h_55.1), (Int.le_trans h_55.2 (by decide))⟩
      have h_57 := ir_1_5 hJ9
      have h_58 : m9 1 5 = (nx F e1 a9) := wd_fv (z := 5) 5 rfl hW rfl rfl rfl rfl (by decide) (hz_32) ⟨by first | exact q_17990f574 h_55 h_56 | omega, by first | exact q_757c304f4 h_55 h_56 | omega⟩ ⟨(Int.le_trans (by decide) h_57.1), (Int.le_trans h_57.2 (by decide))⟩
      have h_59 := ir_41_4 hI
      have h_60 := ir_1_5 hJ
      have h_61 := ir_41_5 hI
      have h_62 := ir_41_6 hI
      have h_63 := rt_ok hRt (by first | (clear h_1 hg_e1 h_2 hr_e1 h_3 hg_a9 hg_f0 h_5 h_6 h_7 h_16 h_28 h_52 h_53 h_54 h_55 h_56 h_57 h_58 h_59 h_60 h_61 h_62 h_8 h_17 h_29; omega) | omega)
      have hro_hRt := rt_ok hRt (by first | assumption | omega)
      have h_71 : -2147483648 ≤ (H (nx F e1 a9)) ∧ (H (nx F e1 a9)) ≤ 2147483647 := by rw [← hH (nx F e1 a9)]; exact ir_43 hI (nx F e1 a9)
      have h_72 : (nx F e1 a9) < 600 → (H (nx F e1 a9)) = (F (nx F e1 a9)) % 256 ∧ -128 ≤ (F (nx F e1 a9)) ∧ (F (nx F e1 a9)) ≤ 127 := fun q => hU (nx F e1 a9) (by omega) q
      refine f_160 (a1 := 1) (a2 := 999) (e1 := e1) (a9 := a9) (f9 := (-1)) (k9 := c 41 6) (B := H) (r8 := (nx F e1 a9)) (D8 := (dg F e1 (nx F e1 a9) 0).1) (V8 := (dg F e1 (nx F e1 a9) 0).2) hI (show 0 ≤ 1 ∧ 1 ≤ 1 from ⟨by decide, by decide⟩) (show (-1) ≤ 999 ∧ 999 ≤ 9999 from ⟨by decide, by decide⟩) ((hr_e1)) (((hro_hRt.2.2.1).trans ((hg_a9)))) (hro_hRt.2.1) (rfl) (fun j => hH j) ((nx_tr hU ((rg_eq hg_a9 h_3).1) ((rg_eq hg_e1 h_1).2)).trans (rfl)) ((congrArg (fun q : Int × Int => q.1) (dg_tr hU (by omega) (by omega))).trans (rfl)) ((congrArg (fun q : Int × Int => q.2) (dg_tr hU (by omega) (by omega))).trans (rfl)) (fun c_64 hI_65 hF_66 h_67 hz_68 hz_69 hz_70 => by exfalso; first | (clear h_1 hg_e1 h_2 hr_e1 h_3 hg_a9 h_4 hg_f0 h_5 h_6 h_7 h_16 h_28 h_52 h_53 h_54 h_55 h_56 h_57 h_58 h_59 h_60 h_61 h_62 h_63 h_8 h_17 h_29; omega) | omega) (fun c_73 hI_74 hF_75 h_76 h_77 hz_78 hz_79 hz_80 => ?_) (fun c_81 hI_82 hF_83 h_84 h_85 h_86 hz_87 hz_88 hz_89 => by exfalso; omega) (fun c_90 hI_91 hF_92 h_93 h_94 h_95 h_96 hz_97 hz_98 hz_99 => by exfalso; omega)
      have h_100 : c_73 41 5 = (nx F e1 a9) := (hz_79)
      have h_101 : c_73 41 4 = (nx F e1 a9) := (hz_78)
      have h_102 : c_73 41 6 = 1 := (hz_80)
      exact K c_73 0 hI_74 (fun a j hm => hF_75 a j hm) ⟨by omega, by omega⟩ (rt_i2 ⟨⟨by first | exact q_5935f82f1 h_54 | omega, by first | exact q_63461c6bf h_54 | omega⟩, by first | exact q_88dc5fb99 h_58 | omega, by first | exact q_a060fbdd4 h_55 h_56 h_58 | omega, by first | exact q_69efb464e h_54 | omega⟩) (by first | (clear h_1 hg_e1 h_2 hr_e1 h_3 hg_a9 h_4 hg_f0 h_5 h_6 h_7 h_16 h_28 h_53 h_54 h_55 h_56 h_57 h_58 h_59 h_60 h_61 h_62 h_63 h_71 h_76 h_8 h_17 h_29 h_72 h_77; omega) | omega) (Or.inr (Or.inl (by first | exact q_e2d2b4ae2 h_54 | omega))) (Or.inr (Or.inl (by first | exact q_e2d2b4ae2 h_54 | omega))) (Or.inr (Or.inl (by first | exact q_e2d2b4ae2 h_54 | omega)))
    · skip
      refine bk_inl (q_istore_n c_38_12 (Nat.le_of_ble_eq_true rfl) (q_iload_n c_38_13 rfl (v_if_ne_f (t := 23) c_38_14 rfl (by decide) (q_aload_n c_38_17 rfl (q_iconst c_38_18 (q_iload_n c_38_19 rfl (v_cv c_38_20 km_3_51 rfl rfl (Nat.le_of_ble_eq_true rfl) ⟨⟨rfl, rfl⟩, Nat.le_of_ble_eq_true rfl, rfl⟩ (Nat.le_of_ble_eq_true rfl) (Nat.le_of_ble_eq_true rfl) ?_)))))))
      refine q_aload_n c_7_0 rfl (v_gi (z := 4) (v := 2) c_7_1 kf_5_38 rfl (Nat.le_of_ble_eq_true rfl) rfl rfl (hz_40) (v_if_ne_t (t := 17) c_7_4 rfl (by decide) (q_vret rfl rfl (bk_inl (q_iload_n c_38_23 rfl (q_iret c_38_24 rfl ?_))))))
      intro hE_103
      have h_104 : yg = 0 := (vi_inj ⟨by omega, by omega⟩ ⟨by omega, by omega⟩ (Option.some.inj (Sum.inl.inj (Prod.mk.inj hE_103).1))).symm
      have hW : Wd P Q P P c_33 = Wd P Q P P m9 := (Prod.mk.inj (Prod.mk.inj hE_103).2).1
      have h_105 := ir_1_4 hJ9
      have h_106 : m9 1 4 = 2 := wd_fv (z := 4) 4 rfl hW rfl rfl rfl rfl (by decide) (hz_40) ⟨by decide, by decide⟩ ⟨(Int.le_trans (by decide) h_105.1), (Int.le_trans h_105.2 (by decide))⟩
      have h_107 := ir_1_2 hJ9
      have h_108 : m9 1 2 = (dg F e1 (nx F e1 a9) 0).1 := wd_fv (z := 2) 2 rfl hW rfl rfl rfl rfl (by decide) (hz_39) ⟨by first | (clear h_1 hg_e1 h_2 hr_e1 h_4 hg_f0 h_5 h_7 h_36 h_37 h_38 h_104 h_105 h_106 h_107 h_8 h_17; omega) | omega, by first | (clear h_3 hg_a9 h_4 hg_f0 h_5 h_6 h_7 h_36 h_38 h_104 h_105 h_106 h_107 h_8 h_17; omega) | omega⟩ ⟨(Int.le_trans (by decide) h_107.1), (Int.le_trans h_107.2 (by decide))⟩
      have h_109 := ir_1_5 hJ9
      have h_110 : m9 1 5 = (nx F e1 a9) := wd_fv (z := 5) 5 rfl hW rfl rfl rfl rfl (by decide) (hz_41) ⟨by first | exact q_a3bce4abb h_3 h_6 hg_a9 | omega, by first | exact q_6bee21a7e h_1 h_37 hg_e1 | omega⟩ ⟨(Int.le_trans (by decide) h_109.1), (Int.le_trans h_109.2 (by decide))⟩
      have h_111 := ir_41_4 hI
      have h_112 := ir_1_5 hJ
      have h_113 := ir_41_5 hI
      have h_114 := ir_41_6 hI
      have h_115 := rt_ok hRt (by first | (clear h_1 hg_e1 h_2 hr_e1 h_3 hg_a9 hg_f0 h_5 h_6 h_7 h_16 h_36 h_37 h_38 h_104 h_105 h_106 h_107 h_108 h_109 h_110 h_111 h_112 h_113 h_114 h_8 h_17; omega) | omega)
      have hro_hRt := rt_ok hRt (by first | assumption | omega)
      have h_123 : -2147483648 ≤ (H (nx F e1 a9)) ∧ (H (nx F e1 a9)) ≤ 2147483647 := by rw [← hH (nx F e1 a9)]; exact ir_43 hI (nx F e1 a9)
      have h_124 := hU (nx F e1 a9) (by first | exact q_828522d69 h_3 h_6 hg_a9 | omega) (by first | exact q_9175fc70b h_1 h_37 hg_e1 | omega)
      refine f_160 (a1 := 1) (a2 := 999) (e1 := e1) (a9 := a9) (f9 := (-1)) (k9 := c 41 6) (B := H) (r8 := (nx F e1 a9)) (D8 := (dg F e1 (nx F e1 a9) 0).1) (V8 := (dg F e1 (nx F e1 a9) 0).2) hI (show 0 ≤ 1 ∧ 1 ≤ 1 from ⟨by decide, by decide⟩) (show (-1) ≤ 999 ∧ 999 ≤ 9999 from ⟨by decide, by decide⟩) ((hr_e1)) (((hro_hRt.2.2.1).trans ((hg_a9)))) (hro_hRt.2.1) (rfl) (fun j => hH j) ((nx_tr hU ((rg_eq hg_a9 h_3).1) ((rg_eq hg_e1 h_1).2)).trans (rfl)) ((congrArg (fun q : Int × Int => q.1) (dg_tr hU (by omega) (by omega))).trans (rfl)) ((congrArg (fun q : Int × Int => q.2) (dg_tr hU (by omega) (by omega))).trans (rfl)) (fun c_116 hI_117 hF_118 h_119 hz_120 hz_121 hz_122 => by exfalso; first | (clear h_1 hg_e1 h_2 hr_e1 h_3 hg_a9 h_4 hg_f0 h_5 h_6 h_7 h_16 h_36 h_37 h_38 h_104 h_105 h_106 h_107 h_108 h_109 h_110 h_111 h_112 h_113 h_114 h_115 h_8 h_17; omega) | omega) (fun c_125 hI_126 hF_127 h_128 h_129 hz_130 hz_131 hz_132 => by exfalso; omega) (fun c_133 hI_134 hF_135 h_136 h_137 h_138 hz_139 hz_140 hz_141 => ?_) (fun c_142 hI_143 hF_144 h_145 h_146 h_147 h_148 hz_149 hz_150 hz_151 => by exfalso; first | (clear h_1 hg_e1 h_2 hr_e1 h_3 hg_a9 h_4 hg_f0 h_5 h_6 h_7 h_16 h_36 h_37 h_104 h_105 h_106 h_107 h_108 h_109 h_110 h_111 h_112 h_113 h_114 h_115 h_123 h_124 h_8 h_17; omega) | omega)
      have h_152 : c_133 41 5 = (nx F e1 a9) := (hz_140)
      have h_153 : c_133 41 4 = (dg F e1 (nx F e1 a9) 0).1 := (hz_139)
      have h_154 : c_133 41 6 = 2 := (hz_141)
      exact K c_133 0 hI_134 (fun a j hm => hF_135 a j hm) ⟨by omega, by omega⟩ (rt_i2 ⟨⟨by first | exact q_254d2140e h_106 | omega, by first | exact q_6ff6db68e h_106 | omega⟩, by first | exact q_88dc5fb99 h_110 | omega, by first | exact q_99ecb86e9 h_110 h_3 h_6 hg_a9 | omega, by first | exact q_8af79aa5c h_106 | omega⟩) (by first | (clear h_1 hg_e1 h_2 hr_e1 h_3 hg_a9 h_4 hg_f0 h_5 h_6 h_7 h_16 h_36 h_37 h_38 h_105 h_106 h_107 h_108 h_109 h_110 h_111 h_112 h_113 h_114 h_115 h_123 h_124 h_136 h_137 h_8 h_17 h_138; omega) | omega) (Or.inr (Or.inl (by first | exact q_8d38fc194 h_106 | omega))) (Or.inr (Or.inl (by first | exact q_8d38fc194 h_106 | omega))) (Or.inr (Or.inl (by first | exact q_8d38fc194 h_106 | omega)))
    · skip
      refine bk_inl (q_istore_n c_38_12 (Nat.le_of_ble_eq_true rfl) (q_iload_n c_38_13 rfl ?_))
      by_cases h_155 : (dg F e1 (nx F e1 a9) 0).2 ≠ 0
      · refine v_if_ne_t (t := 23) c_38_14 rfl ⟨h_155, ⟨by first | (clear h_1 hg_e1 h_2 hr_e1 h_3 hg_a9 h_4 hg_f0 h_5 h_6 h_7 h_45 h_46 h_47 h_8 h_17; omega) | omega, by first | exact q_d11430ef1 h_47 | omega⟩, by decide, by decide⟩ (q_iload_n c_38_23 rfl (q_iret c_38_24 rfl ?_))
        intro hE_156
        have h_157 : yg = (dg F e1 (nx F e1 a9) 0).2 := (vi_inj ⟨by omega, by omega⟩ ⟨by omega, by omega⟩ (Option.some.inj (Sum.inl.inj (Prod.mk.inj hE_156).1))).symm
        have hW : Wd P Q P P c_42 = Wd P Q P P m9 := (Prod.mk.inj (Prod.mk.inj hE_156).2).1
        have h_158 := ir_1_4 hJ9
        have h_159 : m9 1 4 = 0 := wd_fv (z := 4) 4 rfl hW rfl rfl rfl rfl (by decide) (hz_49) ⟨by decide, by decide⟩ ⟨(Int.le_trans (by decide) h_158.1), (Int.le_trans h_158.2 (by decide))⟩
        have h_160 := ir_1_2 hJ9
        have h_161 : m9 1 2 = (dg F e1 (nx F e1 a9) 0).1 := wd_fv (z := 2) 2 rfl hW rfl rfl rfl rfl (by decide) (hz_48) ⟨by first | (clear h_1 hg_e1 h_2 hr_e1 h_4 hg_f0 h_5 h_7 h_45 h_46 h_47 h_157 h_158 h_159 h_160 h_8 h_17 h_155; omega) | omega, by first | (clear h_1 hg_e1 h_3 hg_a9 h_4 hg_f0 h_5 h_6 h_7 h_45 h_47 h_157 h_158 h_159 h_160 h_8 h_17 h_155; omega) | omega⟩ ⟨(Int.le_trans (by decide) h_160.1), (Int.le_trans h_160.2 (by decide))⟩
        have h_162 := ir_1_5 hJ9
        have h_163 : m9 1 5 = (-1) := wd_fv (z := 5) 5 rfl hW rfl rfl rfl rfl (by decide) (hz_50) ⟨by decide, by decide⟩ ⟨(Int.le_trans (by decide) h_162.1), (Int.le_trans h_162.2 (by decide))⟩
        have h_164 := ir_41_4 hI
        have h_165 := ir_1_5 hJ
        have h_166 := ir_41_5 hI
        have h_167 := ir_41_6 hI
        have h_168 := rt_ok hRt (by first | (clear h_1 hg_e1 h_2 hr_e1 h_3 hg_a9 hg_f0 h_5 h_6 h_7 h_16 h_45 h_46 h_47 h_157 h_158 h_159 h_160 h_161 h_162 h_163 h_164 h_165 h_166 h_167 h_8 h_17 h_155; omega) | omega)
        have hro_hRt := rt_ok hRt (by first | assumption | omega)
        have h_176 : -2147483648 ≤ (H (nx F e1 a9)) ∧ (H (nx F e1 a9)) ≤ 2147483647 := by rw [← hH (nx F e1 a9)]; exact ir_43 hI (nx F e1 a9)
        have h_177 := hU (nx F e1 a9) (by first | exact q_828522d69 h_3 h_6 hg_a9 | omega) (by first | exact q_9175fc70b h_1 h_46 hg_e1 | omega)
        refine f_160 (a1 := 1) (a2 := 999) (e1 := e1) (a9 := a9) (f9 := (-1)) (k9 := c 41 6) (B := H) (r8 := (nx F e1 a9)) (D8 := (dg F e1 (nx F e1 a9) 0).1) (V8 := (dg F e1 (nx F e1 a9) 0).2) hI (show 0 ≤ 1 ∧ 1 ≤ 1 from ⟨by decide, by decide⟩) (show (-1) ≤ 999 ∧ 999 ≤ 9999 from ⟨by decide, by decide⟩) ((hr_e1)) (((hro_hRt.2.2.1).trans ((hg_a9)))) (hro_hRt.2.1) (rfl) (fun j => hH j) ((nx_tr hU ((rg_eq hg_a9 h_3).1) ((rg_eq hg_e1 h_1).2)).trans (rfl)) ((congrArg (fun q : Int × Int => q.1) (dg_tr hU (by omega) (by omega))).trans (rfl)) ((congrArg (fun q : Int × Int => q.2) (dg_tr hU (by omega) (by omega))).trans (rfl)) (fun c_169 hI_170 hF_171 h_172 hz_173 hz_174 hz_175 => by exfalso; first | (clear h_1 hg_e1 h_2 hr_e1 h_3 hg_a9 h_4 hg_f0 h_5 h_6 h_7 h_16 h_45 h_46 h_47 h_157 h_158 h_159 h_160 h_161 h_162 h_163 h_164 h_165 h_166 h_167 h_168 h_8 h_17 h_155; omega) | omega) (fun c_178 hI_179 hF_180 h_181 h_182 hz_183 hz_184 hz_185 => by exfalso; omega) (fun c_186 hI_187 hF_188 h_189 h_190 h_191 hz_192 hz_193 hz_194 => by exfalso; omega) (fun c_195 hI_196 hF_197 h_198 h_199 h_200 h_201 hz_202 hz_203 hz_204 => ?_)
        have h_205 : c_195 41 5 = (-1) := (hz_203)
        have h_206 : c_195 41 4 = (dg F e1 (nx F e1 a9) 0).1 := (hz_202)
        have h_207 : c_195 41 6 = c 41 6 := (hz_204)
        exact K c_195 ((dg F e1 (nx F e1 a9) 0).2) hI_196 (fun a j hm => hF_197 a j hm) ⟨by omega, by omega⟩ (rt_i1 ⟨by first | exact q_f6b658f58 h_158 h_159 | omega, by first | assumption | omega, by first | exact q_88dc5fb99 h_161 | omega, by first | exact q_f39655ca6 h_162 h_163 | omega⟩) (by first | exact q_88dc5fb99 h_157 | omega) (Or.inr (Or.inr ⟨by first | (clear h_1 hg_e1 h_2 hr_e1 h_3 hg_a9 h_4 hg_f0 h_5 h_7 h_16 h_45 h_47 h_157 h_158 h_159 h_160 h_162 h_163 h_164 h_165 h_166 h_167 h_168 h_176 h_177 h_198 h_199 h_200 h_201 h_8 h_155; omega) | omega, by first | (clear h_1 hg_e1 h_2 hr_e1 h_3 hg_a9 h_4 hg_f0 h_5 h_6 h_7 h_45 h_47 h_157 h_158 h_159 h_160 h_162 h_163 h_164 h_165 h_166 h_167 h_168 h_176 h_177 h_198 h_199 h_200 h_201 h_8 h_17 h_155; omega) | omega⟩)) (Or.inr (Or.inr (by first | (clear h_1 hg_e1 h_2 hr_e1 h_3 hg_a9 h_5 h_6 h_7 h_16 h_45 h_46 h_47 h_157 h_158 h_159 h_160 h_161 h_162 h_163 h_164 h_165 h_166 h_167 h_168 h_176 h_177 h_198 h_199 h_200 h_201 h_8 h_17 h_155; omega) | omega))) (Or.inr (Or.inr (by first | exact q_c1ad76126 h_200 | omega)))
      · refine v_if_ne_f (t := 23) c_38_14 rfl (Decidable.not_not.mp h_155) (q_aload_n c_38_17 rfl (q_iconst c_38_18 (q_iload_n c_38_19 rfl (v_cv c_38_20 km_3_51 rfl rfl (Nat.le_of_ble_eq_true rfl) ⟨⟨rfl, rfl⟩, Nat.le_of_ble_eq_true rfl, rfl⟩ (Nat.le_of_ble_eq_true rfl) (Nat.le_of_ble_eq_true rfl) (q_aload_n c_7_0 rfl (v_gi (z := 4) (v := 0) c_7_1 kf_5_38 rfl (Nat.le_of_ble_eq_true rfl) rfl rfl (hz_49) (v_if_ne_f (t := 17) c_7_4 rfl (by decide) ?_)))))))
        refine q_aload_n c_7_7 rfl (q_iload_n c_7_8 rfl (v_pi (z := 4) c_7_9 kf_5_38 rfl (Nat.le_of_ble_eq_true rfl) rfl rfl rfl (by decide) (q_aload_n c_7_12 rfl (q_iload_n c_7_13 rfl (v_pi (z := 5) c_7_14 kf_5_15 rfl (Nat.le_of_ble_eq_true rfl) rfl rfl rfl (by decide) (q_vret rfl rfl (bk_inl ?_)))))))
        refine q_iload_n c_38_23 rfl (q_iret c_38_24 rfl ?_)
        have hI_208 := iw_1_4 (v := 2) hI_43 ⟨by decide, by decide⟩
        have hI_209 := iw_1_5 (v := (nx F e1 a9)) hI_208 ⟨by first | exact q_e3021f629 h_3 h_6 hg_a9 | omega, by first | exact q_b4715533c h_2 h_46 hr_e1 | omega⟩
        intro hE_210
        have h_211 : yg = (dg F e1 (nx F e1 a9) 0).2 := (vi_inj ⟨by omega, by omega⟩ ⟨by omega, by omega⟩ (Option.some.inj (Sum.inl.inj (Prod.mk.inj hE_210).1))).symm
        have hW : Wd P Q P P (up (up c_42 1 4 2) 1 5 (nx F e1 a9)) = Wd P Q P P m9 := (Prod.mk.inj (Prod.mk.inj hE_210).2).1
        have h_212 := ir_1_4 hJ9
        have h_213 : m9 1 4 = 2 := wd_fv (z := 4) 4 rfl hW rfl rfl rfl rfl (by decide) ((up_n (by decide)).trans (up_e rfl)) ⟨by decide, by decide⟩ ⟨(Int.le_trans (by decide) h_212.1), (Int.le_trans h_212.2 (by decide))⟩
        have h_214 := ir_1_2 hJ9
        have h_215 : m9 1 2 = (dg F e1 (nx F e1 a9) 0).1 := wd_fv (z := 2) 2 rfl hW rfl rfl rfl rfl (by decide) ((up_n (by decide)).trans ((up_n (by decide)).trans (hz_48))) ⟨by first | (clear h_1 hg_e1 h_2 hr_e1 h_4 hg_f0 h_5 h_7 h_45 h_46 h_47 h_155 h_211 h_212 h_213 h_214 h_8 h_17; omega) | omega, by first | (clear h_1 hg_e1 h_3 hg_a9 h_4 hg_f0 h_5 h_6 h_7 h_45 h_47 h_155 h_211 h_212 h_213 h_214 h_8 h_17; omega) | omega⟩ ⟨(Int.le_trans (by decide) h_214.1), (Int.le_trans h_214.2 (by decide))⟩
        have h_216 := ir_1_5 hJ9
        have h_217 : m9 1 5 = (nx F e1 a9) := wd_fv (z := 5) 5 rfl hW rfl rfl rfl rfl (by decide) (up_e rfl) ⟨by first | exact q_a3bce4abb h_3 h_6 hg_a9 | omega, by first | exact q_6bee21a7e h_1 h_46 hg_e1 | omega⟩ ⟨(Int.le_trans (by decide) h_216.1), (Int.le_trans h_216.2 (by decide))⟩
        have h_218 := ir_41_4 hI
        have h_219 := ir_1_5 hJ
        have h_220 := ir_41_5 hI
        have h_221 := ir_41_6 hI
        have h_222 := rt_ok hRt (by first | (clear h_1 hg_e1 h_2 hr_e1 h_3 hg_a9 hg_f0 h_5 h_6 h_7 h_16 h_45 h_46 h_47 h_155 h_211 h_212 h_213 h_214 h_215 h_216 h_217 h_218 h_219 h_220 h_221 h_8 h_17; omega) | omega)
        have hro_hRt := rt_ok hRt (by first | assumption | omega)
        have h_230 : -2147483648 ≤ (H (nx F e1 a9)) ∧ (H (nx F e1 a9)) ≤ 2147483647 := by rw [← hH (nx F e1 a9)]; exact ir_43 hI (nx F e1 a9)
        have h_231 := hU (nx F e1 a9) (by first | exact q_828522d69 h_3 h_6 hg_a9 | omega) (by first | exact q_9175fc70b h_1 h_46 hg_e1 | omega)
        refine f_160 (a1 := 1) (a2 := 999) (e1 := e1) (a9 := a9) (f9 := (-1)) (k9 := c 41 6) (B := H) (r8 := (nx F e1 a9)) (D8 := (dg F e1 (nx F e1 a9) 0).1) (V8 := (dg F e1 (nx F e1 a9) 0).2) hI (show 0 ≤ 1 ∧ 1 ≤ 1 from ⟨by decide, by decide⟩) (show (-1) ≤ 999 ∧ 999 ≤ 9999 from ⟨by decide, by decide⟩) ((hr_e1)) (((hro_hRt.2.2.1).trans ((hg_a9)))) (hro_hRt.2.1) (rfl) (fun j => hH j) ((nx_tr hU ((rg_eq hg_a9 h_3).1) ((rg_eq hg_e1 h_1).2)).trans (rfl)) ((congrArg (fun q : Int × Int => q.1) (dg_tr hU (by omega) (by omega))).trans (rfl)) ((congrArg (fun q : Int × Int => q.2) (dg_tr hU (by omega) (by omega))).trans (rfl)) (fun c_223 hI_224 hF_225 h_226 hz_227 hz_228 hz_229 => by exfalso; first | (clear h_1 hg_e1 h_2 hr_e1 h_3 hg_a9 h_4 hg_f0 h_5 h_6 h_7 h_16 h_45 h_46 h_47 h_155 h_211 h_212 h_213 h_214 h_215 h_216 h_217 h_218 h_219 h_220 h_221 h_222 h_8 h_17; omega) | omega) (fun c_232 hI_233 hF_234 h_235 h_236 hz_237 hz_238 hz_239 => by exfalso; omega) (fun c_240 hI_241 hF_242 h_243 h_244 h_245 hz_246 hz_247 hz_248 => ?_) (fun c_249 hI_250 hF_251 h_252 h_253 h_254 h_255 hz_256 hz_257 hz_258 => by exfalso; first | (clear h_1 hg_e1 h_2 hr_e1 h_3 hg_a9 h_4 hg_f0 h_5 h_6 h_7 h_16 h_45 h_46 h_47 h_211 h_212 h_213 h_214 h_215 h_216 h_217 h_218 h_219 h_220 h_221 h_222 h_230 h_231 h_8 h_17; omega) | omega)
        have h_259 : c_240 41 5 = (nx F e1 a9) := (hz_247)
        have h_260 : c_240 41 4 = (dg F e1 (nx F e1 a9) 0).1 := (hz_246)
        have h_261 : c_240 41 6 = 2 := (hz_248)
        exact K c_240 0 hI_241 (fun a j hm => hF_242 a j hm) ⟨by omega, by omega⟩ (rt_i2 ⟨⟨by first | exact q_254d2140e h_213 | omega, by first | exact q_6ff6db68e h_213 | omega⟩, by first | exact q_88dc5fb99 h_217 | omega, by first | exact q_99ecb86e9 h_217 h_3 h_6 hg_a9 | omega, by first | exact q_8af79aa5c h_213 | omega⟩) (by first | (clear h_1 hg_e1 h_2 hr_e1 h_3 hg_a9 h_4 hg_f0 h_5 h_6 h_7 h_16 h_45 h_46 h_47 h_212 h_213 h_214 h_215 h_216 h_217 h_218 h_219 h_220 h_221 h_222 h_230 h_231 h_243 h_244 h_8 h_17 h_245; omega) | omega) (Or.inr (Or.inl (by first | exact q_8d38fc194 h_213 | omega))) (Or.inr (Or.inl (by first | exact q_8d38fc194 h_213 | omega))) (Or.inr (Or.inl (by first | exact q_8d38fc194 h_213 | omega)))
  · skip
    refine q_aload_n c_38_0 rfl ?_
    have h_262 : -2147483648 ≤ (F a9) ∧ (F a9) ≤ 2147483647 := by rw [← hF a9]; exact ir_2 hJ a9
    have h_263 := nx_bd (b := F) (e := e1) (a := a9)
    have h_264 : -2147483648 ≤ (F (nx F e1 a9)) ∧ (F (nx F e1 a9)) ≤ 2147483647 := by rw [← hF (nx F e1 a9)]; exact ir_2 hJ (nx F e1 a9)
    have h_265 := nx_n (b := F) (e := e1) (a := a9)
    refine v_cv c_38_1 km_3_42 rfl rfl (Nat.le_of_ble_eq_true rfl) ⟨⟨rfl, rfl⟩, Nat.le_of_ble_eq_true rfl, rfl⟩ (Nat.le_of_ble_eq_true rfl) (Nat.le_of_ble_eq_true rfl) (f_3 (e1 := e1) (a9 := a9) (B := F) (r8 := (nx F e1 a9)) hJ ((hg_e1)) ((hg_a9)) (fun j => hF j) rfl (fun c_266 hI_267 hF_268 hz_269 => (bk_inl (q_istore_n c_38_4 (Nat.le_of_ble_eq_true rfl) (q_aload_n c_38_5 rfl (v_sip c_38_6 (by decide) ?_))))))
    have kn_270 : Hid (c_266 1 1 = e1) := (hF_268 1 1 (fun h => absurd h.2 (ni rfl))).trans (hg_e1)
    have kn_271 : Hid (c_266 1 4 = f0) := (hF_268 1 4 (fun h => absurd h.2 (ni rfl))).trans (hg_f0)
    have h_272 := ir_1_5 hJ
    have kn_273 : Hid (c_266 1 5 = m 1 5) := hF_268 1 5 (fun h => absurd h.2 (ni rfl))
    have h_274 := dg_bd (b := F) (e := e1) (a := (nx F e1 a9)) (v := 0) (by decide)
    have h_275 := dg_p (b := F) (e := e1) (a := (nx F e1 a9)) (v := 0) (by decide)
    refine v_cv c_38_9 km_3_73 rfl rfl (Nat.le_of_ble_eq_true rfl) ⟨⟨rfl, rfl⟩, Nat.le_of_ble_eq_true rfl, rfl⟩ (Nat.le_of_ble_eq_true rfl) (Nat.le_of_ble_eq_true rfl) (f_8 (a1 := 999) (e1 := e1) (a9 := (nx F e1 a9)) (f9 := f0) (p9 := m 1 5) (B := F) (r8 := (nx F e1 a9)) (D8 := (dg F e1 (nx F e1 a9) 0).1) (V8 := (dg F e1 (nx F e1 a9) 0).2) hI_267 (show (-1) ≤ 999 ∧ 999 ≤ 9999 from ⟨by decide, by decide⟩) ((hid kn_270)) ((hz_269)) ((hid kn_271)) ((hid kn_273)) (fun j => (hF_268 2 j (fun h => absurd h.1 (nn rfl))).trans (hF j)) (nx_z (by omega)) rfl rfl (fun c_276 hI_277 hF_278 h_279 hz_280 hz_281 hz_282 => (bk_inl (q_istore_n c_38_12 (Nat.le_of_ble_eq_true rfl) (q_iload_n c_38_13 rfl (v_if_ne_f (t := 23) c_38_14 rfl (by decide) (q_aload_n c_38_17 rfl (q_iconst c_38_18 (q_iload_n c_38_19 rfl ?_)))))))) (fun c_283 hI_284 hF_285 h_286 h_287 hz_288 hz_289 hz_290 => by exfalso; first | (clear h_1 hg_e1 h_2 hr_e1 h_3 hg_a9 h_4 h_262 h_263 h_264 h_272 h_274 h_265 h_275; omega) | omega) (fun c_291 hI_292 hF_293 h_294 h_295 h_296 hz_297 hz_298 hz_299 => by exfalso; first | (clear h_1 hg_e1 h_2 hr_e1 h_3 hg_a9 h_4 h_262 h_263 h_264 h_272 h_274 h_265 h_275; omega) | omega) (fun c_300 hI_301 hF_302 h_303 h_304 h_305 hz_306 hz_307 hz_308 => by exfalso; first | (clear h_1 hg_e1 h_2 hr_e1 h_3 hg_a9 h_4 h_262 h_263 h_264 h_272 h_274 h_265 h_275; omega) | omega))
    refine v_cv c_38_20 km_3_51 rfl rfl (Nat.le_of_ble_eq_true rfl) ⟨⟨rfl, rfl⟩, Nat.le_of_ble_eq_true rfl, rfl⟩ (Nat.le_of_ble_eq_true rfl) (Nat.le_of_ble_eq_true rfl) (q_aload_n c_7_0 rfl (v_gi (z := 4) (v := f0) c_7_1 kf_5_38 rfl (Nat.le_of_ble_eq_true rfl) rfl rfl (hz_281) (v_if_ne_t (t := 17) c_7_4 rfl ⟨by first | exact q_592765181 h_279 | omega, ⟨(Int.le_trans (by decide) (rg_eq hg_f0 h_4).1), (Int.le_trans (rg_eq hg_f0 h_4).2 (by decide))⟩, by decide, by decide⟩ (q_vret rfl rfl (bk_inl (q_iload_n c_38_23 rfl (q_iret c_38_24 rfl ?_)))))))
    intro hE_309
    have h_310 : yg = 0 := (vi_inj ⟨by omega, by omega⟩ ⟨by omega, by omega⟩ (Option.some.inj (Sum.inl.inj (Prod.mk.inj hE_309).1))).symm
    have hW : Wd P Q P P c_276 = Wd P Q P P m9 := (Prod.mk.inj (Prod.mk.inj hE_309).2).1
    have h_311 := ir_1_4 hJ9
    have h_312 : m9 1 4 = f0 := wd_fv (z := 4) 4 rfl hW rfl rfl rfl rfl (by decide) (hz_281) ⟨(Int.le_trans (by decide) (rg_eq hg_f0 h_4).1), (Int.le_trans (rg_eq hg_f0 h_4).2 (by decide))⟩ ⟨(Int.le_trans (by decide) h_311.1), (Int.le_trans h_311.2 (by decide))⟩
    have h_313 := ir_1_2 hJ9
    have h_314 : m9 1 2 = (nx F e1 a9) := wd_fv (z := 2) 2 rfl hW rfl rfl rfl rfl (by decide) (hz_280) ⟨by first | exact q_c1bde17fc h_263 h_3 hg_a9 | omega, by first | exact q_1a04c20dc h_1 h_263 h_3 hg_a9 hg_e1 | omega⟩ ⟨(Int.le_trans (by decide) h_313.1), (Int.le_trans h_313.2 (by decide))⟩
    have h_315 := ir_1_5 hJ9
    have h_316 : m9 1 5 = m 1 5 := wd_fv (z := 5) 5 rfl hW rfl rfl rfl rfl (by decide) (hz_282) ⟨by first | exact q_a93a79546 h_272 | omega, by first | exact q_64fbdbf81 h_272 | omega⟩ ⟨(Int.le_trans (by decide) h_315.1), (Int.le_trans h_315.2 (by decide))⟩
    have h_317 := ir_41_4 hI
    have h_318 := ir_41_5 hI
    have h_319 := ir_41_6 hI
    have h_320 := rt_bad hRt (by first | exact q_c7f8f82fa h_279 h_4 hg_f0 | omega)
    have hrb_hRt := rt_bad hRt (by first | exact q_5e082ea92 h_320 hg_f0 | omega)
    have h_321 : -2147483648 ≤ (F (c 41 4)) ∧ (F (c 41 4)) ≤ 2147483647 := by rw [← hF (c 41 4)]; exact ir_2 hJ (c 41 4)
    have h_322 := nx_bd (b := F) (e := e1) (a := c 41 4)
    have h_323 : -2147483648 ≤ (F (nx F e1 (c 41 4))) ∧ (F (nx F e1 (c 41 4))) ≤ 2147483647 := by rw [← hF (nx F e1 (c 41 4))]; exact ir_2 hJ (nx F e1 (c 41 4))
    have h_324 := nx_n (b := F) (e := e1) (a := c 41 4)
    have h_325 := dg_bd (b := F) (e := e1) (a := (nx F e1 (c 41 4))) (v := 0) (by decide)
    have h_326 := dg_p (b := F) (e := e1) (a := (nx F e1 (c 41 4))) (v := 0) (by decide)
    have h_334 : -2147483648 ≤ (H (nx F e1 (c 41 4))) ∧ (H (nx F e1 (c 41 4))) ≤ 2147483647 := by rw [← hH (nx F e1 (c 41 4))]; exact ir_43 hI (nx F e1 (c 41 4))
    have h_335 : (nx F e1 (c 41 4)) < 600 → (H (nx F e1 (c 41 4))) = (F (nx F e1 (c 41 4))) % 256 ∧ -128 ≤ (F (nx F e1 (c 41 4))) ∧ (F (nx F e1 (c 41 4))) ≤ 127 := fun q => hU (nx F e1 (c 41 4)) (by omega) q
    refine f_160 (a1 := 1) (a2 := 999) (e1 := e1) (a9 := c 41 4) (f9 := m 1 5) (k9 := f0) (B := H) (r8 := (nx F e1 (c 41 4))) (D8 := (dg F e1 (nx F e1 (c 41 4)) 0).1) (V8 := (dg F e1 (nx F e1 (c 41 4)) 0).2) hI (show 0 ≤ 1 ∧ 1 ≤ 1 from ⟨by decide, by decide⟩) (show (-1) ≤ 999 ∧ 999 ≤ 9999 from ⟨by decide, by decide⟩) ((hr_e1)) (rfl) (hrb_hRt.2.1) (((hrb_hRt.2.2.2).trans ((hg_f0)))) (fun j => hH j) ((nx_tr hU (h_317.1) ((rg_eq hg_e1 h_1).2)).trans (rfl)) ((congrArg (fun q : Int × Int => q.1) (dg_tr hU (by omega) (by omega))).trans (rfl)) ((congrArg (fun q : Int × Int => q.2) (dg_tr hU (by omega) (by omega))).trans (rfl)) (fun c_327 hI_328 hF_329 h_330 hz_331 hz_332 hz_333 => ?_) (fun c_336 hI_337 hF_338 h_339 h_340 hz_341 hz_342 hz_343 => by exfalso; first | (clear h_1 hg_e1 h_2 hr_e1 h_3 hg_a9 h_4 hg_f0 h_262 h_263 h_264 h_272 h_274 h_310 h_311 h_312 h_313 h_314 h_315 h_316 h_317 h_318 h_319 h_321 h_322 h_323 h_325 h_334 h_265 h_275 h_279 h_324 h_326 h_335; omega) | omega) (fun c_344 hI_345 hF_346 h_347 h_348 h_349 hz_350 hz_351 hz_352 => by exfalso; first | (clear h_1 hg_e1 h_2 hr_e1 h_3 hg_a9 h_4 hg_f0 h_262 h_263 h_264 h_272 h_274 h_310 h_311 h_312 h_313 h_314 h_315 h_316 h_317 h_318 h_319 h_321 h_322 h_323 h_325 h_334 h_265 h_275 h_279 h_324 h_326 h_335; omega) | omega) (fun c_353 hI_354 hF_355 h_356 h_357 h_358 h_359 hz_360 hz_361 hz_362 => by exfalso; first | (clear h_1 hg_e1 h_2 hr_e1 h_3 hg_a9 h_4 hg_f0 h_262 h_263 h_264 h_272 h_274 h_310 h_311 h_312 h_313 h_314 h_315 h_316 h_317 h_318 h_319 h_321 h_322 h_323 h_325 h_334 h_265 h_275 h_279 h_324 h_326 h_335; omega) | omega)
    have h_363 : c_327 41 5 = m 1 5 := (hz_332)
    have h_364 : c_327 41 4 = c 41 4 := (hz_331)
    have h_365 : c_327 41 6 = f0 := (hz_333)
    exact K c_327 0 hI_328 (fun a j hm => hF_329 a j hm) ⟨by omega, by omega⟩ (rt_i2 ⟨⟨by first | exact q_3b8ab523e h_312 h_320 hg_f0 | omega, by first | exact q_c99d6ea93 h_311 | omega⟩, by first | exact q_88dc5fb99 h_316 | omega, by first | exact q_cb71117a2 h_316 h_320 | omega, by first | exact q_88dc5fb99 h_312 | omega⟩) (by first | (clear h_1 hg_e1 h_2 hr_e1 h_3 hg_a9 h_4 hg_f0 h_262 h_263 h_264 h_272 h_274 h_311 h_312 h_313 h_314 h_315 h_316 h_317 h_318 h_319 h_320 h_321 h_322 h_323 h_325 h_334 h_265 h_275 h_279 h_324 h_326 h_335 h_330; omega) | omega) (Or.inr (Or.inl (by first | exact q_2ce17e943 h_312 h_320 hg_f0 | omega))) (Or.inr (Or.inl (by first | exact q_2ce17e943 h_312 h_320 hg_f0 | omega))) (Or.inr (Or.inl (by first | exact q_2ce17e943 h_312 h_320 hg_f0 | omega)))

set_option maxRecDepth 100000 in
set_option maxHeartbeats 4000000 in
theorem L_11_11 {sc : List Int32} {e eg : Int} {d dh u ug P Q P2 Q2 : Nat} {c m m9 : ME} {e1 a9 f0 : Int} {F H : Int → Int} {Z : AR → Prop} (hI : Iv u e P2 Q2 c) (hJ : Iv ug eg P Q m) (hJ9 : Iv ug eg P Q m9) (hg_e1 : m 1 1 = e1) (hr_e1 : c 41 3 = e1) (hg_a9 : m 1 2 = a9) (hg_f0 : m 1 4 = f0) (hF : ∀ j : Int, m 2 j = F j) (hH : ∀ j : Int, c 43 j = H j) (hU : Ub F H) (hRt : Rt m c) (hG : Wp sc (dh + 14) 11 0 [(0, .ref 1), (1, .ref (a_SB + 11))] [] (Wd P Q P P m) 0 0 (fun q => q = (.inl (none), Wd P Q P P m9, 0, 0))) (K : ∀ (c2 : ME), Iv u e P2 Q2 c2 → (∀ (a : Nat) (j : Int), ¬ ((a = 41 ∧ j = 4) ∨ (a = 41 ∧ j = 5) ∨ (a = 41 ∧ j = 6)) → c2 a j = c a j) → (Rt m9 c2) → ((m9 1 4 < 0) ∨ (m9 1 4 > 0) ∨ (m9 1 2 > a9 ∧ m9 1 2 ≤ e1)) → ((m9 1 4 < 0) ∨ (m9 1 4 > 0) ∨ (f0 = 0)) → Z (.inl (none), Wd P2 Q2 P2 P2 c2, 0, 0)) : Wp sc (d + 14) 161 0 [(0, .ref 41), (1, vi 91)] [] (Wd P2 Q2 P2 P2 c) 0 0 Z := by
  have hP := iv_P hJ
  have hQ := iv_Q hJ
  have h_1 := ir_1_1 hJ
  have h_2 := ir_41_3 hI
  have h_3 := ir_1_2 hJ
  have h_4 := ir_1_4 hJ
  refine gh hG ?_
  by_cases hs9 : m 1 4 = 0
  · skip
    have hs8 := (rt_ok hRt hs9).2.2.2
    refine q_aload_n c_11_0 rfl (v_cv c_11_1 km_5_45 rfl rfl (Nat.le_of_ble_eq_true rfl) ⟨⟨rfl, rfl⟩, Nat.le_of_ble_eq_true rfl, rfl⟩ (Nat.le_of_ble_eq_true rfl) (Nat.le_of_ble_eq_true rfl) (q_aload_n c_2_0 rfl (v_gi (z := 4) (v := 0) c_2_1 kf_5_38 rfl (Nat.le_of_ble_eq_true rfl) rfl rfl (hs9) (v_if_ne_f (t := 11) c_2_4 rfl (by decide) (q_iconst c_2_7 (q_goto (t := 12) c_2_8 rfl (v_zret c_2_12 rfl (by decide) ?_)))))))
    refine bk_inl (v_if_eq_f (t := 25) c_11_4 rfl (by decide) (q_aload_n c_11_7 rfl (q_aload_n c_11_8 rfl (v_cv c_11_9 km_5_65 rfl rfl (Nat.le_of_ble_eq_true rfl) ⟨⟨rfl, rfl⟩, Nat.le_of_ble_eq_true rfl, rfl⟩ (Nat.le_of_ble_eq_true rfl) (Nat.le_of_ble_eq_true rfl) (q_aload_n c_4_0 rfl ?_)))))
    have h_5 : -2147483648 ≤ (F a9) ∧ (F a9) ≤ 2147483647 := by rw [← hF a9]; exact ir_2 hJ a9
    have h_6 := nx_bd (b := F) (e := e1) (a := a9)
    have h_7 : -2147483648 ≤ (F (nx F e1 a9)) ∧ (F (nx F e1 a9)) ≤ 2147483647 := by rw [← hF (nx F e1 a9)]; exact ir_2 hJ (nx F e1 a9)
    have h_8 := nx_n (b := F) (e := e1) (a := a9)
    refine v_cv c_4_1 km_5_41 rfl rfl (Nat.le_of_ble_eq_true rfl) ⟨⟨rfl, rfl⟩, Nat.le_of_ble_eq_true rfl, rfl⟩ (Nat.le_of_ble_eq_true rfl) (Nat.le_of_ble_eq_true rfl) (f_3 (e1 := e1) (a9 := a9) (B := F) (r8 := (nx F e1 a9)) hJ ((hg_e1)) ((hg_a9)) (fun j => hF j) rfl (fun c_9 hI_10 hF_11 hz_12 => (bk_inl (q_istore_n c_4_4 (Nat.le_of_ble_eq_true rfl) (q_iconst c_4_5 (q_istore_n c_4_6 (Nat.le_of_ble_eq_true rfl) (q_iload_n c_4_7 rfl (q_aload_n c_4_8 rfl (v_sln 1 c_4_9 rfl (by omega) (Nat.le_of_ble_eq_true rfl) (by decide) (by decide) ?_)))))))))
    refine v_ic_ge_f (t := 55) c_4_12 rfl (by decide) (q_iload_n c_4_15 rfl (q_aload_n c_4_16 rfl ?_))
    have kn_13 : Hid (c_9 1 1 = e1) := (hF_11 1 1 (fun h => absurd h.2 (ni rfl))).trans (hg_e1)
    refine v_gi (z := 1) (v := e1) c_4_17 kf_5_32 rfl (Nat.le_of_ble_eq_true rfl) rfl rfl (hid kn_13) ?_
    by_cases h_14 : (nx F e1 a9) ≥ e1
    · refine v_ic_ge_t (t := 55) c_4_20 rfl ⟨(Int.le_trans (by decide) (rg_eq hg_e1 h_1).1), h_14, by first | exact q_b3bd846dd h_2 h_3 h_6 hg_a9 hr_e1 | omega⟩ (q_iconst c_4_55 (q_iret c_4_56 rfl (bk_inl (q_iconst c_11_12 (v_ic_ne_f (t := 25) c_11_13 rfl (by decide) (q_aload_n c_11_16 rfl (q_iconst c_11_17 ?_)))))))
      refine q_aload_n c_11_18 rfl (v_gi (z := 2) (v := (nx F e1 a9)) c_11_19 kf_5_35 rfl (Nat.le_of_ble_eq_true rfl) rfl rfl (hz_12) (v_cv c_11_22 km_5_52 rfl rfl (Nat.le_of_ble_eq_true rfl) ⟨⟨rfl, rfl⟩, Nat.le_of_ble_eq_true rfl, rfl⟩ (Nat.le_of_ble_eq_true rfl) (Nat.le_of_ble_eq_true rfl) (q_aload_n c_7_0 rfl ?_)))
      have kn_15 : Hid (c_9 1 4 = 0) := (hF_11 1 4 (fun h => absurd h.2 (ni rfl))).trans (hs9)
      refine v_gi (z := 4) (v := 0) c_7_1 kf_5_38 rfl (Nat.le_of_ble_eq_true rfl) rfl rfl (hid kn_15) (v_if_ne_f (t := 17) c_7_4 rfl (by decide) (q_aload_n c_7_7 rfl (q_iload_n c_7_8 rfl (v_pi (z := 4) c_7_9 kf_5_38 rfl (Nat.le_of_ble_eq_true rfl) rfl rfl rfl (by decide) (q_aload_n c_7_12 rfl (q_iload_n c_7_13 rfl (v_pi (z := 5) c_7_14 kf_5_15 rfl (Nat.le_of_ble_eq_true rfl) rfl rfl rfl (by decide) ?_)))))))
      refine q_vret rfl rfl (bk_inl (q_vret rfl rfl ?_))
      have hI_16 := iw_1_4 (v := 1) hI_10 ⟨by decide, by decide⟩
      have hI_17 := iw_1_5 (v := (nx F e1 a9)) hI_16 ⟨by first | exact q_e3021f629 h_3 h_6 hg_a9 | omega, by first | exact q_f657906b2 h_2 h_3 h_6 hg_a9 hr_e1 | omega⟩
      intro hE_18
      have hW : Wd P Q P P (up (up c_9 1 4 1) 1 5 (nx F e1 a9)) = Wd P Q P P m9 := (Prod.mk.inj (Prod.mk.inj hE_18).2).1
      have h_19 := ir_1_4 hJ9
      have h_20 : m9 1 4 = 1 := wd_fv (z := 4) 4 rfl hW rfl rfl rfl rfl (by decide) ((up_n (by decide)).trans (up_e rfl)) ⟨by decide, by decide⟩ ⟨(Int.le_trans (by decide) h_19.1), (Int.le_trans h_19.2 (by decide))⟩
      have h_21 := ir_1_2 hJ9
      have h_22 : m9 1 2 = (nx F e1 a9) := wd_fv (z := 2) 2 rfl hW rfl rfl rfl rfl (by decide) ((up_n (by decide)).trans ((up_n (by decide)).trans (hz_12))) ⟨by first | exact q_a3bce4abb h_3 h_6 hg_a9 | omega, by first | exact q_b3bd846dd h_2 h_3 h_6 hg_a9 hr_e1 | omega⟩ ⟨(Int.le_trans (by decide) h_21.1), (Int.le_trans h_21.2 (by decide))⟩
      have h_23 := ir_1_5 hJ9
      have h_24 : m9 1 5 = (nx F e1 a9) := wd_fv (z := 5) 5 rfl hW rfl rfl rfl rfl (by decide) (up_e rfl) ⟨by first | exact q_17990f574 h_21 h_22 | omega, by first | exact q_757c304f4 h_21 h_22 | omega⟩ ⟨(Int.le_trans (by decide) h_23.1), (Int.le_trans h_23.2 (by decide))⟩
      refine q_aload_n c_161_0 rfl (v_cv c_161_1 km_8_131 rfl rfl (Nat.le_of_ble_eq_true rfl) ⟨⟨rfl, rfl⟩, Nat.le_of_ble_eq_true rfl, rfl⟩ (Nat.le_of_ble_eq_true rfl) (Nat.le_of_ble_eq_true rfl) (q_aload_n c_152_0 rfl ?_))
      have h_25 := ir_41_5 hI
      have h_26 := ir_1_5 hJ
      have h_27 := ir_41_4 hI
      have h_28 := ir_41_6 hI
      have h_29 := rt_ok hRt (by first | (clear h_1 hg_e1 h_2 hr_e1 h_3 hg_a9 hg_f0 h_5 h_6 h_7 h_14 h_19 h_20 h_21 h_22 h_23 h_24 h_25 h_26 h_27 h_28 h_8; omega) | omega)
      have hro_hRt := rt_ok hRt (by first | assumption | omega)
      refine v_gi (z := 5) (v := (-1)) c_152_1 kf_8_102 rfl (Nat.le_of_ble_eq_true rfl) rfl rfl hro_hRt.2.1 (q_iconst c_152_4 (v_ic_ne_f (t := 12) c_152_5 rfl (by decide) (q_iconst c_152_8 (q_goto (t := 13) c_152_9 rfl (v_zret c_152_13 rfl (by decide) (bk_inl (v_if_eq_f (t := 24) c_161_4 rfl (by decide) ?_)))))))
      refine q_aload_n c_161_7 rfl ?_
      have h_30 : -2147483648 ≤ (H (nx F e1 a9)) ∧ (H (nx F e1 a9)) ≤ 2147483647 := by rw [← hH (nx F e1 a9)]; exact ir_43 hI (nx F e1 a9)
      have h_31 : (nx F e1 a9) < 600 → (H (nx F e1 a9)) = (F (nx F e1 a9)) % 256 ∧ -128 ≤ (F (nx F e1 a9)) ∧ (F (nx F e1 a9)) ≤ 127 := fun q => hU (nx F e1 a9) (by omega) q
      have h_32 := hb_or (b := H) (e := e1) (r := (nx F e1 a9))
      have h_33 := hb_bd (b := H) (e := e1) (r := (nx F e1 a9)) (lo := -2147483648) (hi := 2147483647) h_30 (by decide)
      refine v_cv c_161_8 km_8_114 rfl rfl (Nat.le_of_ble_eq_true rfl) ⟨⟨rfl, rfl⟩, Nat.le_of_ble_eq_true rfl, rfl⟩ (Nat.le_of_ble_eq_true rfl) (Nat.le_of_ble_eq_true rfl) (f_154 (e1 := e1) (a9 := a9) (B := H) (r8 := (nx F e1 a9)) (r := (hb H e1 (nx F e1 a9))) hI ((hr_e1)) (((hro_hRt.2.2.1).trans ((hg_a9)))) (fun j => hH j) ((nx_tr hU ((rg_eq hg_a9 h_3).1) ((rg_eq hg_e1 h_1).2)).trans (rfl)) rfl (fun c_34 hI_35 hF_36 h_37 => (bk_inl (q_iload_n c_161_11 rfl (v_ic_eq_f (t := 24) c_161_12 rfl ⟨by first | exact q_ea4577a89 h_14 h_32 | omega, ⟨h_33.1, h_33.2⟩, by decide, by decide⟩ (q_aload_n c_161_15 rfl (q_iconst c_161_16 (q_aload_n c_161_17 rfl (v_gi (z := 4) (v := (nx F e1 a9)) c_161_18 kf_8_108 rfl (Nat.le_of_ble_eq_true rfl) rfl rfl (h_37) ?_)))))))))
      refine v_cv c_161_21 km_8_138 rfl rfl (Nat.le_of_ble_eq_true rfl) ⟨⟨rfl, rfl⟩, Nat.le_of_ble_eq_true rfl, rfl⟩ (Nat.le_of_ble_eq_true rfl) (Nat.le_of_ble_eq_true rfl) (q_aload_n c_153_0 rfl ?_)
      have kn_38 : Hid (c_34 41 5 = (-1)) := (hF_36 41 5 (fun h => absurd h.2 (ni rfl))).trans hro_hRt.2.1
      refine v_gi (z := 5) (v := (-1)) c_153_1 kf_8_102 rfl (Nat.le_of_ble_eq_true rfl) rfl rfl (hid kn_38) (q_iconst c_153_4 (v_ic_eq_t (t := 9) c_153_5 rfl (by decide) (q_aload_n c_153_9 rfl (q_iload_n c_153_10 rfl (v_pi (z := 5) c_153_11 kf_8_102 rfl (Nat.le_of_ble_eq_true rfl) rfl rfl rfl (by decide) (q_aload_n c_153_14 rfl (q_iload_n c_153_15 rfl ?_)))))))
      refine v_pi (z := 6) c_153_16 kf_8_105 rfl (Nat.le_of_ble_eq_true rfl) rfl rfl rfl (by decide) (q_vret rfl rfl (bk_inl (q_aload_n c_161_24 rfl (v_cv c_161_25 km_8_131 rfl rfl (Nat.le_of_ble_eq_true rfl) ⟨⟨rfl, rfl⟩, Nat.le_of_ble_eq_true rfl, rfl⟩ (Nat.le_of_ble_eq_true rfl) (Nat.le_of_ble_eq_true rfl) (q_aload_n c_152_0 rfl (v_gi (z := 5) (v := (nx F e1 a9)) c_152_1 kf_8_102 rfl (Nat.le_of_ble_eq_true rfl) rfl rfl ((up_n (by decide)).trans (up_e rfl)) (q_iconst c_152_4 ?_)))))))
      refine v_ic_ne_t (t := 12) c_152_5 rfl ⟨by first | exact q_90762221b h_21 h_22 | omega, ⟨by first | exact q_17990f574 h_21 h_22 | omega, by first | exact q_757c304f4 h_21 h_22 | omega⟩, by decide, by decide⟩ (q_iconst c_152_12 (v_zret c_152_13 rfl (by decide) (bk_inl (v_if_eq_t (t := 41) c_161_28 rfl (by decide) (q_vret rfl rfl ?_)))))
      have hI_39 := iw_41_5 (v := (nx F e1 a9)) hI_35 ⟨by first | exact q_5ce231cbd h_21 h_22 | omega, by first | exact q_6094bb0fa h_23 h_24 | omega⟩
      have hI_40 := iw_41_6 (v := 1) hI_39 ⟨by decide, by decide⟩
      have h_41 : (up (up c_34 41 5 (nx F e1 a9)) 41 6 1) 41 5 = (nx F e1 a9) := ((up_n (by decide)).trans (up_e rfl))
      have h_42 : (up (up c_34 41 5 (nx F e1 a9)) 41 6 1) 41 4 = (nx F e1 a9) := ((up_n (by decide)).trans ((up_n (by decide)).trans (h_37)))
      have h_43 : (up (up c_34 41 5 (nx F e1 a9)) 41 6 1) 41 6 = 1 := (up_e rfl)
      exact K (up (up c_34 41 5 (nx F e1 a9)) 41 6 1)  hI_40 (fun a j hm => (up_b (Decidable.or_iff_not_imp_left.mpr (fun h1 h2 => hm (Or.inr (Or.inr ⟨Decidable.not_not.mp h1, h2⟩))))).trans ((up_b (Decidable.or_iff_not_imp_left.mpr (fun h1 h2 => hm (Or.inr (Or.inl ⟨Decidable.not_not.mp h1, h2⟩))))).trans (hF_36 a j (fun h => hm (Or.inl h))))) (rt_i2 ⟨⟨by first | exact q_5935f82f1 h_20 | omega, by first | exact q_63461c6bf h_20 | omega⟩, by first | exact q_88dc5fb99 h_24 | omega, by first | exact q_a060fbdd4 h_21 h_22 h_24 | omega, by first | exact q_69efb464e h_20 | omega⟩) (Or.inr (Or.inl (by first | exact q_e2d2b4ae2 h_20 | omega))) (Or.inr (Or.inl (by first | exact q_e2d2b4ae2 h_20 | omega)))
    · refine v_ic_ge_f (t := 55) c_4_20 rfl ⟨by first | exact q_a3bce4abb h_3 h_6 hg_a9 | omega, (Int.not_le.mp h_14), (Int.le_trans (rg_eq hg_e1 h_1).2 (by decide))⟩ (q_aload_n c_4_23 rfl (v_gr (t := 2) c_4_24 kf_5_9 rfl (Nat.le_of_ble_eq_true rfl) rfl (q_iload_n c_4_27 rfl ?_)))
      have kn_44 : Hid (c_9 2 (nx F e1 a9) = (F (nx F e1 a9))) := (hF_11 2 (nx F e1 a9) (fun h => absurd h.1 (nn rfl))).trans (hF (nx F e1 a9))
      refine v_ba (v := (F (nx F e1 a9))) c_4_28 rfl (by decide) (by decide) ⟨by first | exact q_828522d69 h_3 h_6 hg_a9 | omega, by first | exact q_b867e77c7 h_14 h_2 hr_e1 | omega⟩ (hid kn_44) (q_aload_n c_4_29 rfl (q_iload_n c_4_30 rfl (v_sch 91 c_4_31 rfl (by omega) (Nat.le_of_ble_eq_true rfl) (by decide) (by decide) (by decide) ?_)))
      by_cases h_45 : (F (nx F e1 a9)) ≠ 91
      · refine v_ic_ne_t (t := 49) c_4_34 rfl ⟨h_45, ⟨h_7.1, h_7.2⟩, by decide, by decide⟩ (v_iinc (v := 1) c_4_49 rfl (Nat.le_of_ble_eq_true rfl) (by decide) (q_goto (t := 7) c_4_52 rfl (q_iload_n c_4_7 rfl (q_aload_n c_4_8 rfl (v_sln 1 c_4_9 rfl (by omega) (Nat.le_of_ble_eq_true rfl) (by decide) (by decide) (v_ic_ge_t (t := 55) c_4_12 rfl (by decide) (q_iconst c_4_55 ?_)))))))
        refine q_iret c_4_56 rfl (bk_inl (q_iconst c_11_12 (v_ic_ne_f (t := 25) c_11_13 rfl (by decide) (q_aload_n c_11_16 rfl (q_iconst c_11_17 (q_aload_n c_11_18 rfl (v_gi (z := 2) (v := (nx F e1 a9)) c_11_19 kf_5_35 rfl (Nat.le_of_ble_eq_true rfl) rfl rfl (hz_12) ?_)))))))
        refine v_cv c_11_22 km_5_52 rfl rfl (Nat.le_of_ble_eq_true rfl) ⟨⟨rfl, rfl⟩, Nat.le_of_ble_eq_true rfl, rfl⟩ (Nat.le_of_ble_eq_true rfl) (Nat.le_of_ble_eq_true rfl) (q_aload_n c_7_0 rfl ?_)
        have kn_46 : Hid (c_9 1 4 = 0) := (hF_11 1 4 (fun h => absurd h.2 (ni rfl))).trans (hs9)
        refine v_gi (z := 4) (v := 0) c_7_1 kf_5_38 rfl (Nat.le_of_ble_eq_true rfl) rfl rfl (hid kn_46) (v_if_ne_f (t := 17) c_7_4 rfl (by decide) (q_aload_n c_7_7 rfl (q_iload_n c_7_8 rfl (v_pi (z := 4) c_7_9 kf_5_38 rfl (Nat.le_of_ble_eq_true rfl) rfl rfl rfl (by decide) (q_aload_n c_7_12 rfl (q_iload_n c_7_13 rfl (v_pi (z := 5) c_7_14 kf_5_15 rfl (Nat.le_of_ble_eq_true rfl) rfl rfl rfl (by decide) ?_)))))))
        refine q_vret rfl rfl (bk_inl (q_vret rfl rfl ?_))
        have hI_47 := iw_1_4 (v := 1) hI_10 ⟨by decide, by decide⟩
        have hI_48 := iw_1_5 (v := (nx F e1 a9)) hI_47 ⟨by first | exact q_e3021f629 h_3 h_6 hg_a9 | omega, by first | exact q_15401fa7c h_14 h_2 hr_e1 | omega⟩
        intro hE_49
        have hW : Wd P Q P P (up (up c_9 1 4 1) 1 5 (nx F e1 a9)) = Wd P Q P P m9 := (Prod.mk.inj (Prod.mk.inj hE_49).2).1
        have h_50 := ir_1_4 hJ9
        have h_51 : m9 1 4 = 1 := wd_fv (z := 4) 4 rfl hW rfl rfl rfl rfl (by decide) ((up_n (by decide)).trans (up_e rfl)) ⟨by decide, by decide⟩ ⟨(Int.le_trans (by decide) h_50.1), (Int.le_trans h_50.2 (by decide))⟩
        have h_52 := ir_1_2 hJ9
        have h_53 : m9 1 2 = (nx F e1 a9) := wd_fv (z := 2) 2 rfl hW rfl rfl rfl rfl (by decide) ((up_n (by decide)).trans ((up_n (by decide)).trans (hz_12))) ⟨by first | exact q_a3bce4abb h_3 h_6 hg_a9 | omega, by first | exact q_2e6ee4ea6 h_14 h_2 hr_e1 | omega⟩ ⟨(Int.le_trans (by decide) h_52.1), (Int.le_trans h_52.2 (by decide))⟩
        have h_54 := ir_1_5 hJ9
        have h_55 : m9 1 5 = (nx F e1 a9) := wd_fv (z := 5) 5 rfl hW rfl rfl rfl rfl (by decide) (up_e rfl) ⟨by first | exact q_17990f574 h_52 h_53 | omega, by first | exact q_757c304f4 h_52 h_53 | omega⟩ ⟨(Int.le_trans (by decide) h_54.1), (Int.le_trans h_54.2 (by decide))⟩
        refine q_aload_n c_161_0 rfl (v_cv c_161_1 km_8_131 rfl rfl (Nat.le_of_ble_eq_true rfl) ⟨⟨rfl, rfl⟩, Nat.le_of_ble_eq_true rfl, rfl⟩ (Nat.le_of_ble_eq_true rfl) (Nat.le_of_ble_eq_true rfl) (q_aload_n c_152_0 rfl ?_))
        have h_56 := ir_41_5 hI
        have h_57 := ir_1_5 hJ
        have h_58 := ir_41_4 hI
        have h_59 := ir_41_6 hI
        have h_60 := rt_ok hRt (by first | (clear h_1 hg_e1 h_2 hr_e1 h_3 hg_a9 hg_f0 h_5 h_6 h_7 h_14 h_50 h_51 h_52 h_53 h_54 h_55 h_56 h_57 h_58 h_59 h_8 h_45; omega) | omega)
        have hro_hRt := rt_ok hRt (by first | assumption | omega)
        refine v_gi (z := 5) (v := (-1)) c_152_1 kf_8_102 rfl (Nat.le_of_ble_eq_true rfl) rfl rfl hro_hRt.2.1 (q_iconst c_152_4 (v_ic_ne_f (t := 12) c_152_5 rfl (by decide) (q_iconst c_152_8 (q_goto (t := 13) c_152_9 rfl (v_zret c_152_13 rfl (by decide) (bk_inl (v_if_eq_f (t := 24) c_161_4 rfl (by decide) ?_)))))))
        refine q_aload_n c_161_7 rfl ?_
        have h_61 : -2147483648 ≤ (H (nx F e1 a9)) ∧ (H (nx F e1 a9)) ≤ 2147483647 := by rw [← hH (nx F e1 a9)]; exact ir_43 hI (nx F e1 a9)
        have h_62 := hU (nx F e1 a9) (by first | exact q_4ad75e8a2 h_52 h_53 | omega) (by first | exact q_b867e77c7 h_14 h_2 hr_e1 | omega)
        have h_63 := hb_or (b := H) (e := e1) (r := (nx F e1 a9))
        have h_64 := hb_bd (b := H) (e := e1) (r := (nx F e1 a9)) (lo := -2147483648) (hi := 2147483647) h_61 (by decide)
        refine v_cv c_161_8 km_8_114 rfl rfl (Nat.le_of_ble_eq_true rfl) ⟨⟨rfl, rfl⟩, Nat.le_of_ble_eq_true rfl, rfl⟩ (Nat.le_of_ble_eq_true rfl) (Nat.le_of_ble_eq_true rfl) (f_154 (e1 := e1) (a9 := a9) (B := H) (r8 := (nx F e1 a9)) (r := (hb H e1 (nx F e1 a9))) hI ((hr_e1)) (((hro_hRt.2.2.1).trans ((hg_a9)))) (fun j => hH j) ((nx_tr hU ((rg_eq hg_a9 h_3).1) ((rg_eq hg_e1 h_1).2)).trans (rfl)) rfl (fun c_65 hI_66 hF_67 h_68 => (bk_inl (q_iload_n c_161_11 rfl (v_ic_eq_f (t := 24) c_161_12 rfl ⟨by first | (clear h_1 hg_e1 h_2 hr_e1 h_3 hg_a9 h_4 hg_f0 h_5 h_6 h_7 h_14 h_50 h_51 h_52 h_53 h_54 h_55 h_56 h_57 h_58 h_59 h_60 h_61 h_64 h_8; omega) | omega, ⟨h_64.1, h_64.2⟩, by decide, by decide⟩ (q_aload_n c_161_15 rfl (q_iconst c_161_16 (q_aload_n c_161_17 rfl (v_gi (z := 4) (v := (nx F e1 a9)) c_161_18 kf_8_108 rfl (Nat.le_of_ble_eq_true rfl) rfl rfl (h_68) ?_)))))))))
        refine v_cv c_161_21 km_8_138 rfl rfl (Nat.le_of_ble_eq_true rfl) ⟨⟨rfl, rfl⟩, Nat.le_of_ble_eq_true rfl, rfl⟩ (Nat.le_of_ble_eq_true rfl) (Nat.le_of_ble_eq_true rfl) (q_aload_n c_153_0 rfl ?_)
        have kn_69 : Hid (c_65 41 5 = (-1)) := (hF_67 41 5 (fun h => absurd h.2 (ni rfl))).trans hro_hRt.2.1
        refine v_gi (z := 5) (v := (-1)) c_153_1 kf_8_102 rfl (Nat.le_of_ble_eq_true rfl) rfl rfl (hid kn_69) (q_iconst c_153_4 (v_ic_eq_t (t := 9) c_153_5 rfl (by decide) (q_aload_n c_153_9 rfl (q_iload_n c_153_10 rfl (v_pi (z := 5) c_153_11 kf_8_102 rfl (Nat.le_of_ble_eq_true rfl) rfl rfl rfl (by decide) (q_aload_n c_153_14 rfl (q_iload_n c_153_15 rfl ?_)))))))
        refine v_pi (z := 6) c_153_16 kf_8_105 rfl (Nat.le_of_ble_eq_true rfl) rfl rfl rfl (by decide) (q_vret rfl rfl (bk_inl (q_aload_n c_161_24 rfl (v_cv c_161_25 km_8_131 rfl rfl (Nat.le_of_ble_eq_true rfl) ⟨⟨rfl, rfl⟩, Nat.le_of_ble_eq_true rfl, rfl⟩ (Nat.le_of_ble_eq_true rfl) (Nat.le_of_ble_eq_true rfl) (q_aload_n c_152_0 rfl (v_gi (z := 5) (v := (nx F e1 a9)) c_152_1 kf_8_102 rfl (Nat.le_of_ble_eq_true rfl) rfl rfl ((up_n (by decide)).trans (up_e rfl)) (q_iconst c_152_4 ?_)))))))
        refine v_ic_ne_t (t := 12) c_152_5 rfl ⟨by first | exact q_90762221b h_52 h_53 | omega, ⟨by first | exact q_17990f574 h_52 h_53 | omega, by first | exact q_783468581 h_54 h_55 | omega⟩, by decide, by decide⟩ (q_iconst c_152_12 (v_zret c_152_13 rfl (by decide) (bk_inl (v_if_eq_t (t := 41) c_161_28 rfl (by decide) (q_vret rfl rfl ?_)))))
        have hI_70 := iw_41_5 (v := (nx F e1 a9)) hI_66 ⟨by first | exact q_5ce231cbd h_52 h_53 | omega, by first | exact q_deaeab841 h_52 h_53 | omega⟩
        have hI_71 := iw_41_6 (v := 1) hI_70 ⟨by decide, by decide⟩
        have h_72 : (up (up c_65 41 5 (nx F e1 a9)) 41 6 1) 41 5 = (nx F e1 a9) := ((up_n (by decide)).trans (up_e rfl))
        have h_73 : (up (up c_65 41 5 (nx F e1 a9)) 41 6 1) 41 4 = (nx F e1 a9) := ((up_n (by decide)).trans ((up_n (by decide)).trans (h_68)))
        have h_74 : (up (up c_65 41 5 (nx F e1 a9)) 41 6 1) 41 6 = 1 := (up_e rfl)
        exact K (up (up c_65 41 5 (nx F e1 a9)) 41 6 1)  hI_71 (fun a j hm => (up_b (Decidable.or_iff_not_imp_left.mpr (fun h1 h2 => hm (Or.inr (Or.inr ⟨Decidable.not_not.mp h1, h2⟩))))).trans ((up_b (Decidable.or_iff_not_imp_left.mpr (fun h1 h2 => hm (Or.inr (Or.inl ⟨Decidable.not_not.mp h1, h2⟩))))).trans (hF_67 a j (fun h => hm (Or.inl h))))) (rt_i2 ⟨⟨by first | exact q_5935f82f1 h_51 | omega, by first | exact q_63461c6bf h_51 | omega⟩, by first | exact q_88dc5fb99 h_55 | omega, by first | exact q_a060fbdd4 h_52 h_53 h_55 | omega, by first | exact q_69efb464e h_51 | omega⟩) (Or.inr (Or.inl (by first | exact q_e2d2b4ae2 h_51 | omega))) (Or.inr (Or.inl (by first | exact q_e2d2b4ae2 h_51 | omega)))
      · refine v_ic_ne_f (t := 49) c_4_34 rfl (Decidable.not_not.mp h_45) (q_aload_n c_4_37 rfl (q_dup c_4_38 rfl (v_gi (z := 2) (v := (nx F e1 a9)) c_4_39 kf_5_35 rfl (Nat.le_of_ble_eq_true rfl) rfl rfl (hz_12) (q_iconst c_4_42 (v_iadd (v := (nx F e1 a9) + 1) c_4_43 rfl (v_pi (z := 2) c_4_44 kf_5_35 rfl (Nat.le_of_ble_eq_true rfl) rfl rfl rfl (by decide) (q_iload_n c_4_47 rfl ?_)))))))
        refine q_iret c_4_48 rfl (bk_inl (q_iconst c_11_12 (v_ic_ne_t (t := 25) c_11_13 rfl (by decide) (q_vret rfl rfl ?_))))
        have hI_75 := iw_1_2 (v := (nx F e1 a9) + 1) hI_10 ⟨by first | exact q_e260493d5 h_3 h_6 hg_a9 | omega, by first | exact q_6ea34058e h_14 h_2 hr_e1 | omega⟩
        intro hE_76
        have hW : Wd P Q P P (up c_9 1 2 ((nx F e1 a9) + 1)) = Wd P Q P P m9 := (Prod.mk.inj (Prod.mk.inj hE_76).2).1
        have kn_77 : Hid (c_9 1 4 = 0) := (hF_11 1 4 (fun h => absurd h.2 (ni rfl))).trans (hs9)
        have h_78 := ir_1_4 hJ9
        have h_79 : m9 1 4 = 0 := wd_fv (z := 4) 4 rfl hW rfl rfl rfl rfl (by decide) ((up_n (by decide)).trans (hid kn_77)) ⟨by decide, by decide⟩ ⟨(Int.le_trans (by decide) h_78.1), (Int.le_trans h_78.2 (by decide))⟩
        have h_80 := ir_1_2 hJ9
        have h_81 : m9 1 2 = (nx F e1 a9) + 1 := wd_fv (z := 2) 2 rfl hW rfl rfl rfl rfl (by decide) (up_e rfl) ⟨by first | exact q_86633cc1b h_3 h_6 hg_a9 | omega, by first | exact q_1da59465c h_14 h_2 hr_e1 | omega⟩ ⟨(Int.le_trans (by decide) h_80.1), (Int.le_trans h_80.2 (by decide))⟩
        have kn_82 : Hid (c_9 1 5 = (-1)) := (hF_11 1 5 (fun h => absurd h.2 (ni rfl))).trans (hs8)
        have h_83 := ir_1_5 hJ9
        have h_84 : m9 1 5 = (-1) := wd_fv (z := 5) 5 rfl hW rfl rfl rfl rfl (by decide) ((up_n (by decide)).trans (hid kn_82)) ⟨by decide, by decide⟩ ⟨(Int.le_trans (by decide) h_83.1), (Int.le_trans h_83.2 (by decide))⟩
        refine q_aload_n c_161_0 rfl (v_cv c_161_1 km_8_131 rfl rfl (Nat.le_of_ble_eq_true rfl) ⟨⟨rfl, rfl⟩, Nat.le_of_ble_eq_true rfl, rfl⟩ (Nat.le_of_ble_eq_true rfl) (Nat.le_of_ble_eq_true rfl) (q_aload_n c_152_0 rfl ?_))
        have h_85 := ir_41_5 hI
        have h_86 := ir_1_5 hJ
        have h_87 := ir_41_4 hI
        have h_88 := ir_41_6 hI
        have h_89 := rt_ok hRt (by first | (clear h_1 hg_e1 h_2 hr_e1 h_3 hg_a9 hg_f0 h_5 h_6 h_7 h_14 h_45 h_78 h_79 h_80 h_81 h_83 h_84 h_85 h_86 h_87 h_88 h_8; omega) | omega)
        have hro_hRt := rt_ok hRt (by first | assumption | omega)
        refine v_gi (z := 5) (v := (-1)) c_152_1 kf_8_102 rfl (Nat.le_of_ble_eq_true rfl) rfl rfl hro_hRt.2.1 (q_iconst c_152_4 (v_ic_ne_f (t := 12) c_152_5 rfl (by decide) (q_iconst c_152_8 (q_goto (t := 13) c_152_9 rfl (v_zret c_152_13 rfl (by decide) (bk_inl (v_if_eq_f (t := 24) c_161_4 rfl (by decide) ?_)))))))
        refine q_aload_n c_161_7 rfl ?_
        have h_90 : -2147483648 ≤ (H (nx F e1 a9)) ∧ (H (nx F e1 a9)) ≤ 2147483647 := by rw [← hH (nx F e1 a9)]; exact ir_43 hI (nx F e1 a9)
        have h_91 := hU (nx F e1 a9) (by first | exact q_828522d69 h_3 h_6 hg_a9 | omega) (by first | exact q_b03d63f6f h_80 h_81 | omega)
        have h_92 := hb_or (b := H) (e := e1) (r := (nx F e1 a9))
        have h_93 := hb_bd (b := H) (e := e1) (r := (nx F e1 a9)) (lo := -2147483648) (hi := 2147483647) h_90 (by decide)
        refine v_cv c_161_8 km_8_114 rfl rfl (Nat.le_of_ble_eq_true rfl) ⟨⟨rfl, rfl⟩, Nat.le_of_ble_eq_true rfl, rfl⟩ (Nat.le_of_ble_eq_true rfl) (Nat.le_of_ble_eq_true rfl) (f_154 (e1 := e1) (a9 := a9) (B := H) (r8 := (nx F e1 a9)) (r := (hb H e1 (nx F e1 a9))) hI ((hr_e1)) (((hro_hRt.2.2.1).trans ((hg_a9)))) (fun j => hH j) ((nx_tr hU ((rg_eq hg_a9 h_3).1) ((rg_eq hg_e1 h_1).2)).trans (rfl)) rfl (fun c_94 hI_95 hF_96 h_97 => (bk_inl (q_iload_n c_161_11 rfl (v_ic_eq_t (t := 24) c_161_12 rfl (by first | (clear h_1 hg_e1 h_2 hr_e1 h_3 hg_a9 h_4 hg_f0 h_5 h_6 h_7 h_78 h_79 h_80 h_81 h_83 h_84 h_85 h_86 h_87 h_88 h_89 h_90 h_93 h_8; omega) | omega) (q_aload_n c_161_24 rfl (v_cv c_161_25 km_8_131 rfl rfl (Nat.le_of_ble_eq_true rfl) ⟨⟨rfl, rfl⟩, Nat.le_of_ble_eq_true rfl, rfl⟩ (Nat.le_of_ble_eq_true rfl) (Nat.le_of_ble_eq_true rfl) (q_aload_n c_152_0 rfl ?_))))))))
        have kn_98 : Hid (c_94 41 5 = (-1)) := (hF_96 41 5 (fun h => absurd h.2 (ni rfl))).trans hro_hRt.2.1
        refine v_gi (z := 5) (v := (-1)) c_152_1 kf_8_102 rfl (Nat.le_of_ble_eq_true rfl) rfl rfl (hid kn_98) (q_iconst c_152_4 (v_ic_ne_f (t := 12) c_152_5 rfl (by decide) (q_iconst c_152_8 (q_goto (t := 13) c_152_9 rfl (v_zret c_152_13 rfl (by decide) (bk_inl (v_if_eq_f (t := 41) c_161_28 rfl (by decide) ?_)))))))
        refine q_aload_n c_161_31 rfl (q_dup c_161_32 rfl (v_gi (z := 4) (v := (nx F e1 a9)) c_161_33 kf_8_108 rfl (Nat.le_of_ble_eq_true rfl) rfl rfl (h_97) (q_iconst c_161_36 (v_iadd (v := (nx F e1 a9) + 1) c_161_37 rfl (v_pi (z := 4) c_161_38 kf_8_108 rfl (Nat.le_of_ble_eq_true rfl) rfl rfl rfl (by decide) (q_vret rfl rfl ?_))))))
        have hI_99 := iw_41_4 (v := (nx F e1 a9) + 1) hI_95 ⟨by first | exact q_e260493d5 h_3 h_6 hg_a9 | omega, by first | exact q_369ecf7f1 h_80 h_81 | omega⟩
        have h_100 : (up c_94 41 4 ((nx F e1 a9) + 1)) 41 5 = (-1) := ((up_n (by decide)).trans (hid kn_98))
        have h_101 : (up c_94 41 4 ((nx F e1 a9) + 1)) 41 4 = (nx F e1 a9) + 1 := (up_e rfl)
        have kn_102 : Hid (c_94 41 6 = c 41 6) := hF_96 41 6 (fun h => absurd h.2 (ni rfl))
        have h_103 : (up c_94 41 4 ((nx F e1 a9) + 1)) 41 6 = c 41 6 := ((up_n (by decide)).trans (hid kn_102))
        exact K (up c_94 41 4 ((nx F e1 a9) + 1))  hI_99 (fun a j hm => (up_b (Decidable.or_iff_not_imp_left.mpr (fun h1 h2 => hm (Or.inl ⟨Decidable.not_not.mp h1, h2⟩)))).trans (hF_96 a j (fun h => hm (Or.inl h)))) (rt_i1 ⟨by first | exact q_f6b658f58 h_78 h_79 | omega, by first | assumption | omega, by first | exact q_58a890de0 h_81 | omega, by first | exact q_f39655ca6 h_83 h_84 | omega⟩) (Or.inr (Or.inr ⟨by first | exact q_1caa53e22 h_6 h_81 | omega, by first | exact q_639ed28ca h_14 h_81 | omega⟩)) (Or.inr (Or.inr (by first | (clear h_1 hg_e1 h_2 hr_e1 h_3 hg_a9 h_5 h_6 h_7 h_14 h_45 h_78 h_79 h_80 h_81 h_83 h_84 h_85 h_86 h_87 h_88 h_89 h_90 h_91 h_93 h_8 h_92; omega) | omega)))
  · skip
    refine q_aload_n c_11_0 rfl (v_cv c_11_1 km_5_45 rfl rfl (Nat.le_of_ble_eq_true rfl) ⟨⟨rfl, rfl⟩, Nat.le_of_ble_eq_true rfl, rfl⟩ (Nat.le_of_ble_eq_true rfl) (Nat.le_of_ble_eq_true rfl) (q_aload_n c_2_0 rfl (v_gi (z := 4) (v := f0) c_2_1 kf_5_38 rfl (Nat.le_of_ble_eq_true rfl) rfl rfl (hg_f0) (v_if_ne_t (t := 11) c_2_4 rfl ⟨by omega, ⟨(Int.le_trans (by decide) (rg_eq hg_f0 h_4).1), (Int.le_trans (rg_eq hg_f0 h_4).2 (by decide))⟩, by decide, by decide⟩ (q_iconst c_2_11 (v_zret c_2_12 rfl (by decide) (bk_inl ?_)))))))
    refine v_if_eq_t (t := 25) c_11_4 rfl (by decide) (q_vret rfl rfl ?_)
    intro hE_104
    have hW : Wd P Q P P m = Wd P Q P P m9 := (Prod.mk.inj (Prod.mk.inj hE_104).2).1
    have h_105 := ir_1_4 hJ9
    have h_106 : m9 1 4 = f0 := wd_fv (z := 4) 4 rfl hW rfl rfl rfl rfl (by decide) (hg_f0) ⟨(Int.le_trans (by decide) (rg_eq hg_f0 h_4).1), (Int.le_trans (rg_eq hg_f0 h_4).2 (by decide))⟩ ⟨(Int.le_trans (by decide) h_105.1), (Int.le_trans h_105.2 (by decide))⟩
    have h_107 := ir_1_2 hJ9
    have h_108 : m9 1 2 = a9 := wd_fv (z := 2) 2 rfl hW rfl rfl rfl rfl (by decide) (hg_a9) ⟨(Int.le_trans (by decide) (rg_eq hg_a9 h_3).1), (Int.le_trans (rg_eq hg_a9 h_3).2 (by decide))⟩ ⟨(Int.le_trans (by decide) h_107.1), (Int.le_trans h_107.2 (by decide))⟩
    have h_109 := ir_1_5 hJ
    have h_110 := ir_1_5 hJ9
    have h_111 : m9 1 5 = m 1 5 := wd_fv (z := 5) 5 rfl hW rfl rfl rfl rfl (by decide) rfl ⟨(Int.le_trans (by decide) h_109.1), (Int.le_trans h_109.2 (by decide))⟩ ⟨(Int.le_trans (by decide) h_110.1), (Int.le_trans h_110.2 (by decide))⟩
    refine q_aload_n c_161_0 rfl (v_cv c_161_1 km_8_131 rfl rfl (Nat.le_of_ble_eq_true rfl) ⟨⟨rfl, rfl⟩, Nat.le_of_ble_eq_true rfl, rfl⟩ (Nat.le_of_ble_eq_true rfl) (Nat.le_of_ble_eq_true rfl) (q_aload_n c_152_0 rfl ?_))
    have h_112 := ir_41_5 hI
    have h_113 := ir_41_4 hI
    have h_114 := ir_41_6 hI
    have h_115 := rt_bad hRt (by first | (clear h_1 hg_e1 h_2 hr_e1 h_3 hg_a9 h_4 hg_f0 h_105 h_106 h_107 h_108 h_109 h_110 h_111 h_112 h_113 h_114; omega) | omega)
    have hrb_hRt := rt_bad hRt (by first | exact q_5e082ea92 h_115 hg_f0 | omega)
    refine v_gi (z := 5) (v := m 1 5) c_152_1 kf_8_102 rfl (Nat.le_of_ble_eq_true rfl) rfl rfl hrb_hRt.2.1 (q_iconst c_152_4 (v_ic_ne_t (t := 12) c_152_5 rfl ⟨by first | exact q_0f78863d3 h_115 | omega, ⟨(Int.le_trans (by decide) h_109.1), (Int.le_trans h_109.2 (by decide))⟩, by decide, by decide⟩ (q_iconst c_152_12 (v_zret c_152_13 rfl (by decide) (bk_inl (v_if_eq_t (t := 24) c_161_4 rfl (by decide) (q_aload_n c_161_24 rfl ?_)))))))
    refine v_cv c_161_25 km_8_131 rfl rfl (Nat.le_of_ble_eq_true rfl) ⟨⟨rfl, rfl⟩, Nat.le_of_ble_eq_true rfl, rfl⟩ (Nat.le_of_ble_eq_true rfl) (Nat.le_of_ble_eq_true rfl) (q_aload_n c_152_0 rfl (v_gi (z := 5) (v := m 1 5) c_152_1 kf_8_102 rfl (Nat.le_of_ble_eq_true rfl) rfl rfl hrb_hRt.2.1 (q_iconst c_152_4 (v_ic_ne_t (t := 12) c_152_5 rfl ⟨by first | exact q_0f78863d3 h_115 | omega, ⟨(Int.le_trans (by decide) h_109.1), (Int.le_trans h_109.2 (by decide))⟩, by decide, by decide⟩ (q_iconst c_152_12 (v_zret c_152_13 rfl (by decide) (bk_inl ?_)))))))
    refine v_if_eq_t (t := 41) c_161_28 rfl (by decide) (q_vret rfl rfl ?_)
    have h_116 : c 41 5 = m 1 5 := hrb_hRt.2.1
    have h_117 : c 41 6 = f0 := ((hrb_hRt.2.2.2).trans ((hg_f0)))
    exact K c  hI (fun a j hm => rfl) (rt_i2 ⟨⟨by first | exact q_3b8ab523e h_106 h_115 hg_f0 | omega, by first | exact q_c99d6ea93 h_105 | omega⟩, by first | exact q_88dc5fb99 h_111 | omega, by first | exact q_cb71117a2 h_111 h_115 | omega, by first | exact q_88dc5fb99 h_106 | omega⟩) (Or.inr (Or.inl (by first | exact q_2ce17e943 h_106 h_115 hg_f0 | omega))) (Or.inr (Or.inl (by first | exact q_2ce17e943 h_106 h_115 hg_f0 | omega)))

set_option maxRecDepth 100000 in
set_option maxHeartbeats 4000000 in
theorem L_11_12 {sc : List Int32} {e eg : Int} {d dh u ug P Q P2 Q2 : Nat} {c m m9 : ME} {e1 a9 f0 : Int} {F H : Int → Int} {Z : AR → Prop} (hI : Iv u e P2 Q2 c) (hJ : Iv ug eg P Q m) (hJ9 : Iv ug eg P Q m9) (hg_e1 : m 1 1 = e1) (hr_e1 : c 41 3 = e1) (hg_a9 : m 1 2 = a9) (hg_f0 : m 1 4 = f0) (hF : ∀ j : Int, m 2 j = F j) (hH : ∀ j : Int, c 43 j = H j) (hU : Ub F H) (hRt : Rt m c) (hG : Wp sc (dh + 14) 11 0 [(0, .ref 1), (1, .ref (a_SB + 12))] [] (Wd P Q P P m) 0 0 (fun q => q = (.inl (none), Wd P Q P P m9, 0, 0))) (K : ∀ (c2 : ME), Iv u e P2 Q2 c2 → (∀ (a : Nat) (j : Int), ¬ ((a = 41 ∧ j = 4) ∨ (a = 41 ∧ j = 5) ∨ (a = 41 ∧ j = 6)) → c2 a j = c a j) → (Rt m9 c2) → ((m9 1 4 < 0) ∨ (m9 1 4 > 0) ∨ (m9 1 2 > a9 ∧ m9 1 2 ≤ e1)) → ((m9 1 4 < 0) ∨ (m9 1 4 > 0) ∨ (f0 = 0)) → Z (.inl (none), Wd P2 Q2 P2 P2 c2, 0, 0)) : Wp sc (d + 14) 161 0 [(0, .ref 41), (1, vi 93)] [] (Wd P2 Q2 P2 P2 c) 0 0 Z := by
  have hP := iv_P hJ
  have hQ := iv_Q hJ
  have h_1 := ir_1_1 hJ
  have h_2 := ir_41_3 hI
  have h_3 := ir_1_2 hJ
  have h_4 := ir_1_4 hJ
  refine gh hG ?_
  by_cases hs9 : m 1 4 = 0
  · skip
    have hs8 := (rt_ok hRt hs9).2.2.2
    refine q_aload_n c_11_0 rfl (v_cv c_11_1 km_5_45 rfl rfl (Nat.le_of_ble_eq_true rfl) ⟨⟨rfl, rfl⟩, Nat.le_of_ble_eq_true rfl, rfl⟩ (Nat.le_of_ble_eq_true rfl) (Nat.le_of_ble_eq_true rfl) (q_aload_n c_2_0 rfl (v_gi (z := 4) (v := 0) c_2_1 kf_5_38 rfl (Nat.le_of_ble_eq_true rfl) rfl rfl (hs9) (v_if_ne_f (t := 11) c_2_4 rfl (by decide) (q_iconst c_2_7 (q_goto (t := 12) c_2_8 rfl (v_zret c_2_12 rfl (by decide) ?_)))))))
    refine bk_inl (v_if_eq_f (t := 25) c_11_4 rfl (by decide) (q_aload_n c_11_7 rfl (q_aload_n c_11_8 rfl (v_cv c_11_9 km_5_65 rfl rfl (Nat.le_of_ble_eq_true rfl) ⟨⟨rfl, rfl⟩, Nat.le_of_ble_eq_true rfl, rfl⟩ (Nat.le_of_ble_eq_true rfl) (Nat.le_of_ble_eq_true rfl) (q_aload_n c_4_0 rfl ?_)))))
    have h_5 : -2147483648 ≤ (F a9) ∧ (F a9) ≤ 2147483647 := by rw [← hF a9]; exact ir_2 hJ a9
    have h_6 := nx_bd (b := F) (e := e1) (a := a9)
    have h_7 : -2147483648 ≤ (F (nx F e1 a9)) ∧ (F (nx F e1 a9)) ≤ 2147483647 := by rw [← hF (nx F e1 a9)]; exact ir_2 hJ (nx F e1 a9)
    have h_8 := nx_n (b := F) (e := e1) (a := a9)
    refine v_cv c_4_1 km_5_41 rfl rfl (Nat.le_of_ble_eq_true rfl) ⟨⟨rfl, rfl⟩, Nat.le_of_ble_eq_true rfl, rfl⟩ (Nat.le_of_ble_eq_true rfl) (Nat.le_of_ble_eq_true rfl) (f_3 (e1 := e1) (a9 := a9) (B := F) (r8 := (nx F e1 a9)) hJ ((hg_e1)) ((hg_a9)) (fun j => hF j) rfl (fun c_9 hI_10 hF_11 hz_12 => (bk_inl (q_istore_n c_4_4 (Nat.le_of_ble_eq_true rfl) (q_iconst c_4_5 (q_istore_n c_4_6 (Nat.le_of_ble_eq_true rfl) (q_iload_n c_4_7 rfl (q_aload_n c_4_8 rfl (v_sln 1 c_4_9 rfl (by omega) (Nat.le_of_ble_eq_true rfl) (by decide) (by decide) ?_)))))))))
    refine v_ic_ge_f (t := 55) c_4_12 rfl (by decide) (q_iload_n c_4_15 rfl (q_aload_n c_4_16 rfl ?_))
    have kn_13 : Hid (c_9 1 1 = e1) := (hF_11 1 1 (fun h => absurd h.2 (ni rfl))).trans (hg_e1)
    refine v_gi (z := 1) (v := e1) c_4_17 kf_5_32 rfl (Nat.le_of_ble_eq_true rfl) rfl rfl (hid kn_13) ?_
    by_cases h_14 : (nx F e1 a9) ≥ e1
    · refine v_ic_ge_t (t := 55) c_4_20 rfl ⟨(Int.le_trans (by decide) (rg_eq hg_e1 h_1).1), h_14, by first | exact q_b3bd846dd h_2 h_3 h_6 hg_a9 hr_e1 | omega⟩ (q_iconst c_4_55 (q_iret c_4_56 rfl (bk_inl (q_iconst c_11_12 (v_ic_ne_f (t := 25) c_11_13 rfl (by decide) (q_aload_n c_11_16 rfl (q_iconst c_11_17 ?_)))))))
      refine q_aload_n c_11_18 rfl (v_gi (z := 2) (v := (nx F e1 a9)) c_11_19 kf_5_35 rfl (Nat.le_of_ble_eq_true rfl) rfl rfl (hz_12) (v_cv c_11_22 km_5_52 rfl rfl (Nat.le_of_ble_eq_true rfl) ⟨⟨rfl, rfl⟩, Nat.le_of_ble_eq_true rfl, rfl⟩ (Nat.le_of_ble_eq_true rfl) (Nat.le_of_ble_eq_true rfl) (q_aload_n c_7_0 rfl ?_)))
      have kn_15 : Hid (c_9 1 4 = 0) := (hF_11 1 4 (fun h => absurd h.2 (ni rfl))).trans (hs9)
      refine v_gi (z := 4) (v := 0) c_7_1 kf_5_38 rfl (Nat.le_of_ble_eq_true rfl) rfl rfl (hid kn_15) (v_if_ne_f (t := 17) c_7_4 rfl (by decide) (q_aload_n c_7_7 rfl (q_iload_n c_7_8 rfl (v_pi (z := 4) c_7_9 kf_5_38 rfl (Nat.le_of_ble_eq_true rfl) rfl rfl rfl (by decide) (q_aload_n c_7_12 rfl (q_iload_n c_7_13 rfl (v_pi (z := 5) c_7_14 kf_5_15 rfl (Nat.le_of_ble_eq_true rfl) rfl rfl rfl (by decide) ?_)))))))
      refine q_vret rfl rfl (bk_inl (q_vret rfl rfl ?_))
      have hI_16 := iw_1_4 (v := 1) hI_10 ⟨by decide, by decide⟩
      have hI_17 := iw_1_5 (v := (nx F e1 a9)) hI_16 ⟨by first | exact q_e3021f629 h_3 h_6 hg_a9 | omega, by first | exact q_f657906b2 h_2 h_3 h_6 hg_a9 hr_e1 | omega⟩
      intro hE_18
      have hW : Wd P Q P P (up (up c_9 1 4 1) 1 5 (nx F e1 a9)) = Wd P Q P P m9 := (Prod.mk.inj (Prod.mk.inj hE_18).2).1
      have h_19 := ir_1_4 hJ9
      have h_20 : m9 1 4 = 1 := wd_fv (z := 4) 4 rfl hW rfl rfl rfl rfl (by decide) ((up_n (by decide)).trans (up_e rfl)) ⟨by decide, by decide⟩ ⟨(Int.le_trans (by decide) h_19.1), (Int.le_trans h_19.2 (by decide))⟩
      have h_21 := ir_1_2 hJ9
      have h_22 : m9 1 2 = (nx F e1 a9) := wd_fv (z := 2) 2 rfl hW rfl rfl rfl rfl (by decide) ((up_n (by decide)).trans ((up_n (by decide)).trans (hz_12))) ⟨by first | exact q_a3bce4abb h_3 h_6 hg_a9 | omega, by first | exact q_b3bd846dd h_2 h_3 h_6 hg_a9 hr_e1 | omega⟩ ⟨(Int.le_trans (by decide) h_21.1), (Int.le_trans h_21.2 (by decide))⟩
      have h_23 := ir_1_5 hJ9
      have h_24 : m9 1 5 = (nx F e1 a9) := wd_fv (z := 5) 5 rfl hW rfl rfl rfl rfl (by decide) (up_e rfl) ⟨by first | exact q_17990f574 h_21 h_22 | omega, by first | exact q_757c304f4 h_21 h_22 | omega⟩ ⟨(Int.le_trans (by decide) h_23.1), (Int.le_trans h_23.2 (by decide))⟩
      refine q_aload_n c_161_0 rfl (v_cv c_161_1 km_8_131 rfl rfl (Nat.le_of_ble_eq_true rfl) ⟨⟨rfl, rfl⟩, Nat.le_of_ble_eq_true rfl, rfl⟩ (Nat.le_of_ble_eq_true rfl) (Nat.le_of_ble_eq_true rfl) (q_aload_n c_152_0 rfl ?_))
      have h_25 := ir_41_5 hI
      have h_26 := ir_1_5 hJ
      have h_27 := ir_41_4 hI
      have h_28 := ir_41_6 hI
      have h_29 := rt_ok hRt (by first | (clear h_1 hg_e1 h_2 hr_e1 h_3 hg_a9 hg_f0 h_5 h_6 h_7 h_14 h_19 h_20 h_21 h_22 h_23 h_24 h_25 h_26 h_27 h_28 h_8; omega) | omega)
      have hro_hRt := rt_ok hRt (by first | assumption | omega)
      refine v_gi (z := 5) (v := (-1)) c_152_1 kf_8_102 rfl (Nat.le_of_ble_eq_true rfl) rfl rfl hro_hRt.2.1 (q_iconst c_152_4 (v_ic_ne_f (t := 12) c_152_5 rfl (by decide) (q_iconst c_152_8 (q_goto (t := 13) c_152_9 rfl (v_zret c_152_13 rfl (by decide) (bk_inl (v_if_eq_f (t := 24) c_161_4 rfl (by decide) ?_)))))))
      refine q_aload_n c_161_7 rfl ?_
      have h_30 : -2147483648 ≤ (H (nx F e1 a9)) ∧ (H (nx F e1 a9)) ≤ 2147483647 := by rw [← hH (nx F e1 a9)]; exact ir_43 hI (nx F e1 a9)
      have h_31 : (nx F e1 a9) < 600 → (H (nx F e1 a9)) = (F (nx F e1 a9)) % 256 ∧ -128 ≤ (F (nx F e1 a9)) ∧ (F (nx F e1 a9)) ≤ 127 := fun q => hU (nx F e1 a9) (by omega) q
      have h_32 := hb_or (b := H) (e := e1) (r := (nx F e1 a9))
      have h_33 := hb_bd (b := H) (e := e1) (r := (nx F e1 a9)) (lo := -2147483648) (hi := 2147483647) h_30 (by decide)
      refine v_cv c_161_8 km_8_114 rfl rfl (Nat.le_of_ble_eq_true rfl) ⟨⟨rfl, rfl⟩, Nat.le_of_ble_eq_true rfl, rfl⟩ (Nat.le_of_ble_eq_true rfl) (Nat.le_of_ble_eq_true rfl) (f_154 (e1 := e1) (a9 := a9) (B := H) (r8 := (nx F e1 a9)) (r := (hb H e1 (nx F e1 a9))) hI ((hr_e1)) (((hro_hRt.2.2.1).trans ((hg_a9)))) (fun j => hH j) ((nx_tr hU ((rg_eq hg_a9 h_3).1) ((rg_eq hg_e1 h_1).2)).trans (rfl)) rfl (fun c_34 hI_35 hF_36 h_37 => (bk_inl (q_iload_n c_161_11 rfl (v_ic_eq_f (t := 24) c_161_12 rfl ⟨by first | exact q_af0526ca2 h_14 h_32 | omega, ⟨h_33.1, h_33.2⟩, by decide, by decide⟩ (q_aload_n c_161_15 rfl (q_iconst c_161_16 (q_aload_n c_161_17 rfl (v_gi (z := 4) (v := (nx F e1 a9)) c_161_18 kf_8_108 rfl (Nat.le_of_ble_eq_true rfl) rfl rfl (h_37) ?_)))))))))
      refine v_cv c_161_21 km_8_138 rfl rfl (Nat.le_of_ble_eq_true rfl) ⟨⟨rfl, rfl⟩, Nat.le_of_ble_eq_true rfl, rfl⟩ (Nat.le_of_ble_eq_true rfl) (Nat.le_of_ble_eq_true rfl) (q_aload_n c_153_0 rfl ?_)
      have kn_38 : Hid (c_34 41 5 = (-1)) := (hF_36 41 5 (fun h => absurd h.2 (ni rfl))).trans hro_hRt.2.1
      refine v_gi (z := 5) (v := (-1)) c_153_1 kf_8_102 rfl (Nat.le_of_ble_eq_true rfl) rfl rfl (hid kn_38) (q_iconst c_153_4 (v_ic_eq_t (t := 9) c_153_5 rfl (by decide) (q_aload_n c_153_9 rfl (q_iload_n c_153_10 rfl (v_pi (z := 5) c_153_11 kf_8_102 rfl (Nat.le_of_ble_eq_true rfl) rfl rfl rfl (by decide) (q_aload_n c_153_14 rfl (q_iload_n c_153_15 rfl ?_)))))))
      refine v_pi (z := 6) c_153_16 kf_8_105 rfl (Nat.le_of_ble_eq_true rfl) rfl rfl rfl (by decide) (q_vret rfl rfl (bk_inl (q_aload_n c_161_24 rfl (v_cv c_161_25 km_8_131 rfl rfl (Nat.le_of_ble_eq_true rfl) ⟨⟨rfl, rfl⟩, Nat.le_of_ble_eq_true rfl, rfl⟩ (Nat.le_of_ble_eq_true rfl) (Nat.le_of_ble_eq_true rfl) (q_aload_n c_152_0 rfl (v_gi (z := 5) (v := (nx F e1 a9)) c_152_1 kf_8_102 rfl (Nat.le_of_ble_eq_true rfl) rfl rfl ((up_n (by decide)).trans (up_e rfl)) (q_iconst c_152_4 ?_)))))))
      refine v_ic_ne_t (t := 12) c_152_5 rfl ⟨by first | exact q_90762221b h_21 h_22 | omega, ⟨by first | exact q_17990f574 h_21 h_22 | omega, by first | exact q_757c304f4 h_21 h_22 | omega⟩, by decide, by decide⟩ (q_iconst c_152_12 (v_zret c_152_13 rfl (by decide) (bk_inl (v_if_eq_t (t := 41) c_161_28 rfl (by decide) (q_vret rfl rfl ?_)))))
      have hI_39 := iw_41_5 (v := (nx F e1 a9)) hI_35 ⟨by first | exact q_5ce231cbd h_21 h_22 | omega, by first | exact q_6094bb0fa h_23 h_24 | omega⟩
      have hI_40 := iw_41_6 (v := 1) hI_39 ⟨by decide, by decide⟩
      have h_41 : (up (up c_34 41 5 (nx F e1 a9)) 41 6 1) 41 5 = (nx F e1 a9) := ((up_n (by decide)).trans (up_e rfl))
      have h_42 : (up (up c_34 41 5 (nx F e1 a9)) 41 6 1) 41 4 = (nx F e1 a9) := ((up_n (by decide)).trans ((up_n (by decide)).trans (h_37)))
      have h_43 : (up (up c_34 41 5 (nx F e1 a9)) 41 6 1) 41 6 = 1 := (up_e rfl)
      exact K (up (up c_34 41 5 (nx F e1 a9)) 41 6 1)  hI_40 (fun a j hm => (up_b (Decidable.or_iff_not_imp_left.mpr (fun h1 h2 => hm (Or.inr (Or.inr ⟨Decidable.not_not.mp h1, h2⟩))))).trans ((up_b (Decidable.or_iff_not_imp_left.mpr (fun h1 h2 => hm (Or.inr (Or.inl ⟨Decidable.not_not.mp h1, h2⟩))))).trans (hF_36 a j (fun h => hm (Or.inl h))))) (rt_i2 ⟨⟨by first | exact q_5935f82f1 h_20 | omega, by first | exact q_63461c6bf h_20 | omega⟩, by first | exact q_88dc5fb99 h_24 | omega, by first | exact q_a060fbdd4 h_21 h_22 h_24 | omega, by first | exact q_69efb464e h_20 | omega⟩) (Or.inr (Or.inl (by first | exact q_e2d2b4ae2 h_20 | omega))) (Or.inr (Or.inl (by first | exact q_e2d2b4ae2 h_20 | omega)))
    · refine v_ic_ge_f (t := 55) c_4_20 rfl ⟨by first | exact q_a3bce4abb h_3 h_6 hg_a9 | omega, (Int.not_le.mp h_14), (Int.le_trans (rg_eq hg_e1 h_1).2 (by decide))⟩ (q_aload_n c_4_23 rfl (v_gr (t := 2) c_4_24 kf_5_9 rfl (Nat.le_of_ble_eq_true rfl) rfl (q_iload_n c_4_27 rfl ?_)))
      have kn_44 : Hid (c_9 2 (nx F e1 a9) = (F (nx F e1 a9))) := (hF_11 2 (nx F e1 a9) (fun h => absurd h.1 (nn rfl))).trans (hF (nx F e1 a9))
      refine v_ba (v := (F (nx F e1 a9))) c_4_28 rfl (by decide) (by decide) ⟨by first | exact q_828522d69 h_3 h_6 hg_a9 | omega, by first | exact q_b867e77c7 h_14 h_2 hr_e1 | omega⟩ (hid kn_44) (q_aload_n c_4_29 rfl (q_iload_n c_4_30 rfl (v_sch 93 c_4_31 rfl (by omega) (Nat.le_of_ble_eq_true rfl) (by decide) (by decide) (by decide) ?_)))
      by_cases h_45 : (F (nx F e1 a9)) ≠ 93
      · refine v_ic_ne_t (t := 49) c_4_34 rfl ⟨h_45, ⟨h_7.1, h_7.2⟩, by decide, by decide⟩ (v_iinc (v := 1) c_4_49 rfl (Nat.le_of_ble_eq_true rfl) (by decide) (q_goto (t := 7) c_4_52 rfl (q_iload_n c_4_7 rfl (q_aload_n c_4_8 rfl (v_sln 1 c_4_9 rfl (by omega) (Nat.le_of_ble_eq_true rfl) (by decide) (by decide) (v_ic_ge_t (t := 55) c_4_12 rfl (by decide) (q_iconst c_4_55 ?_)))))))
        refine q_iret c_4_56 rfl (bk_inl (q_iconst c_11_12 (v_ic_ne_f (t := 25) c_11_13 rfl (by decide) (q_aload_n c_11_16 rfl (q_iconst c_11_17 (q_aload_n c_11_18 rfl (v_gi (z := 2) (v := (nx F e1 a9)) c_11_19 kf_5_35 rfl (Nat.le_of_ble_eq_true rfl) rfl rfl (hz_12) ?_)))))))
        refine v_cv c_11_22 km_5_52 rfl rfl (Nat.le_of_ble_eq_true rfl) ⟨⟨rfl, rfl⟩, Nat.le_of_ble_eq_true rfl, rfl⟩ (Nat.le_of_ble_eq_true rfl) (Nat.le_of_ble_eq_true rfl) (q_aload_n c_7_0 rfl ?_)
        have kn_46 : Hid (c_9 1 4 = 0) := (hF_11 1 4 (fun h => absurd h.2 (ni rfl))).trans (hs9)
        refine v_gi (z := 4) (v := 0) c_7_1 kf_5_38 rfl (Nat.le_of_ble_eq_true rfl) rfl rfl (hid kn_46) (v_if_ne_f (t := 17) c_7_4 rfl (by decide) (q_aload_n c_7_7 rfl (q_iload_n c_7_8 rfl (v_pi (z := 4) c_7_9 kf_5_38 rfl (Nat.le_of_ble_eq_true rfl) rfl rfl rfl (by decide) (q_aload_n c_7_12 rfl (q_iload_n c_7_13 rfl (v_pi (z := 5) c_7_14 kf_5_15 rfl (Nat.le_of_ble_eq_true rfl) rfl rfl rfl (by decide) ?_)))))))
        refine q_vret rfl rfl (bk_inl (q_vret rfl rfl ?_))
        have hI_47 := iw_1_4 (v := 1) hI_10 ⟨by decide, by decide⟩
        have hI_48 := iw_1_5 (v := (nx F e1 a9)) hI_47 ⟨by first | exact q_e3021f629 h_3 h_6 hg_a9 | omega, by first | exact q_15401fa7c h_14 h_2 hr_e1 | omega⟩
        intro hE_49
        have hW : Wd P Q P P (up (up c_9 1 4 1) 1 5 (nx F e1 a9)) = Wd P Q P P m9 := (Prod.mk.inj (Prod.mk.inj hE_49).2).1
        have h_50 := ir_1_4 hJ9
        have h_51 : m9 1 4 = 1 := wd_fv (z := 4) 4 rfl hW rfl rfl rfl rfl (by decide) ((up_n (by decide)).trans (up_e rfl)) ⟨by decide, by decide⟩ ⟨(Int.le_trans (by decide) h_50.1), (Int.le_trans h_50.2 (by decide))⟩
        have h_52 := ir_1_2 hJ9
        have h_53 : m9 1 2 = (nx F e1 a9) := wd_fv (z := 2) 2 rfl hW rfl rfl rfl rfl (by decide) ((up_n (by decide)).trans ((up_n (by decide)).trans (hz_12))) ⟨by first | exact q_a3bce4abb h_3 h_6 hg_a9 | omega, by first | exact q_2e6ee4ea6 h_14 h_2 hr_e1 | omega⟩ ⟨(Int.le_trans (by decide) h_52.1), (Int.le_trans h_52.2 (by decide))⟩
        have h_54 := ir_1_5 hJ9
        have h_55 : m9 1 5 = (nx F e1 a9) := wd_fv (z := 5) 5 rfl hW rfl rfl rfl rfl (by decide) (up_e rfl) ⟨by first | exact q_17990f574 h_52 h_53 | omega, by first | exact q_757c304f4 h_52 h_53 | omega⟩ ⟨(Int.le_trans (by decide) h_54.1), (Int.le_trans h_54.2 (by decide))⟩
        refine q_aload_n c_161_0 rfl (v_cv c_161_1 km_8_131 rfl rfl (Nat.le_of_ble_eq_true rfl) ⟨⟨rfl, rfl⟩, Nat.le_of_ble_eq_true rfl, rfl⟩ (Nat.le_of_ble_eq_true rfl) (Nat.le_of_ble_eq_true rfl) (q_aload_n c_152_0 rfl ?_))
        have h_56 := ir_41_5 hI
        have h_57 := ir_1_5 hJ
        have h_58 := ir_41_4 hI
        have h_59 := ir_41_6 hI
        have h_60 := rt_ok hRt (by first | (clear h_1 hg_e1 h_2 hr_e1 h_3 hg_a9 hg_f0 h_5 h_6 h_7 h_14 h_50 h_51 h_52 h_53 h_54 h_55 h_56 h_57 h_58 h_59 h_8 h_45; omega) | omega)
        have hro_hRt := rt_ok hRt (by first | assumption | omega)
        refine v_gi (z := 5) (v := (-1)) c_152_1 kf_8_102 rfl (Nat.le_of_ble_eq_true rfl) rfl rfl hro_hRt.2.1 (q_iconst c_152_4 (v_ic_ne_f (t := 12) c_152_5 rfl (by decide) (q_iconst c_152_8 (q_goto (t := 13) c_152_9 rfl (v_zret c_152_13 rfl (by decide) (bk_inl (v_if_eq_f (t := 24) c_161_4 rfl (by decide) ?_)))))))
        refine q_aload_n c_161_7 rfl ?_
        have h_61 : -2147483648 ≤ (H (nx F e1 a9)) ∧ (H (nx F e1 a9)) ≤ 2147483647 := by rw [← hH (nx F e1 a9)]; exact ir_43 hI (nx F e1 a9)
        have h_62 := hU (nx F e1 a9) (by first | exact q_4ad75e8a2 h_52 h_53 | omega) (by first | exact q_b867e77c7 h_14 h_2 hr_e1 | omega)
        have h_63 := hb_or (b := H) (e := e1) (r := (nx F e1 a9))
        have h_64 := hb_bd (b := H) (e := e1) (r := (nx F e1 a9)) (lo := -2147483648) (hi := 2147483647) h_61 (by decide)
        refine v_cv c_161_8 km_8_114 rfl rfl (Nat.le_of_ble_eq_true rfl) ⟨⟨rfl, rfl⟩, Nat.le_of_ble_eq_true rfl, rfl⟩ (Nat.le_of_ble_eq_true rfl) (Nat.le_of_ble_eq_true rfl) (f_154 (e1 := e1) (a9 := a9) (B := H) (r8 := (nx F e1 a9)) (r := (hb H e1 (nx F e1 a9))) hI ((hr_e1)) (((hro_hRt.2.2.1).trans ((hg_a9)))) (fun j => hH j) ((nx_tr hU ((rg_eq hg_a9 h_3).1) ((rg_eq hg_e1 h_1).2)).trans (rfl)) rfl (fun c_65 hI_66 hF_67 h_68 => (bk_inl (q_iload_n c_161_11 rfl (v_ic_eq_f (t := 24) c_161_12 rfl ⟨by first | (clear h_1 hg_e1 h_2 hr_e1 h_3 hg_a9 h_4 hg_f0 h_5 h_6 h_7 h_14 h_50 h_51 h_52 h_53 h_54 h_55 h_56 h_57 h_58 h_59 h_60 h_61 h_64 h_8; omega) | omega, ⟨h_64.1, h_64.2⟩, by decide, by decide⟩ (q_aload_n c_161_15 rfl (q_iconst c_161_16 (q_aload_n c_161_17 rfl (v_gi (z := 4) (v := (nx F e1 a9)) c_161_18 kf_8_108 rfl (Nat.le_of_ble_eq_true rfl) rfl rfl (h_68) ?_)))))))))
        refine v_cv c_161_21 km_8_138 rfl rfl (Nat.le_of_ble_eq_true rfl) ⟨⟨rfl, rfl⟩, Nat.le_of_ble_eq_true rfl, rfl⟩ (Nat.le_of_ble_eq_true rfl) (Nat.le_of_ble_eq_true rfl) (q_aload_n c_153_0 rfl ?_)
        have kn_69 : Hid (c_65 41 5 = (-1)) := (hF_67 41 5 (fun h => absurd h.2 (ni rfl))).trans hro_hRt.2.1
        refine v_gi (z := 5) (v := (-1)) c_153_1 kf_8_102 rfl (Nat.le_of_ble_eq_true rfl) rfl rfl (hid kn_69) (q_iconst c_153_4 (v_ic_eq_t (t := 9) c_153_5 rfl (by decide) (q_aload_n c_153_9 rfl (q_iload_n c_153_10 rfl (v_pi (z := 5) c_153_11 kf_8_102 rfl (Nat.le_of_ble_eq_true rfl) rfl rfl rfl (by decide) (q_aload_n c_153_14 rfl (q_iload_n c_153_15 rfl ?_)))))))
        refine v_pi (z := 6) c_153_16 kf_8_105 rfl (Nat.le_of_ble_eq_true rfl) rfl rfl rfl (by decide) (q_vret rfl rfl (bk_inl (q_aload_n c_161_24 rfl (v_cv c_161_25 km_8_131 rfl rfl (Nat.le_of_ble_eq_true rfl) ⟨⟨rfl, rfl⟩, Nat.le_of_ble_eq_true rfl, rfl⟩ (Nat.le_of_ble_eq_true rfl) (Nat.le_of_ble_eq_true rfl) (q_aload_n c_152_0 rfl (v_gi (z := 5) (v := (nx F e1 a9)) c_152_1 kf_8_102 rfl (Nat.le_of_ble_eq_true rfl) rfl rfl ((up_n (by decide)).trans (up_e rfl)) (q_iconst c_152_4 ?_)))))))
        refine v_ic_ne_t (t := 12) c_152_5 rfl ⟨by first | exact q_90762221b h_52 h_53 | omega, ⟨by first | exact q_17990f574 h_52 h_53 | omega, by first | exact q_783468581 h_54 h_55 | omega⟩, by decide, by decide⟩ (q_iconst c_152_12 (v_zret c_152_13 rfl (by decide) (bk_inl (v_if_eq_t (t := 41) c_161_28 rfl (by decide) (q_vret rfl rfl ?_)))))
        have hI_70 := iw_41_5 (v := (nx F e1 a9)) hI_66 ⟨by first | exact q_5ce231cbd h_52 h_53 | omega, by first | exact q_deaeab841 h_52 h_53 | omega⟩
        have hI_71 := iw_41_6 (v := 1) hI_70 ⟨by decide, by decide⟩
        have h_72 : (up (up c_65 41 5 (nx F e1 a9)) 41 6 1) 41 5 = (nx F e1 a9) := ((up_n (by decide)).trans (up_e rfl))
        have h_73 : (up (up c_65 41 5 (nx F e1 a9)) 41 6 1) 41 4 = (nx F e1 a9) := ((up_n (by decide)).trans ((up_n (by decide)).trans (h_68)))
        have h_74 : (up (up c_65 41 5 (nx F e1 a9)) 41 6 1) 41 6 = 1 := (up_e rfl)
        exact K (up (up c_65 41 5 (nx F e1 a9)) 41 6 1)  hI_71 (fun a j hm => (up_b (Decidable.or_iff_not_imp_left.mpr (fun h1 h2 => hm (Or.inr (Or.inr ⟨Decidable.not_not.mp h1, h2⟩))))).trans ((up_b (Decidable.or_iff_not_imp_left.mpr (fun h1 h2 => hm (Or.inr (Or.inl ⟨Decidable.not_not.mp h1, h2⟩))))).trans (hF_67 a j (fun h => hm (Or.inl h))))) (rt_i2 ⟨⟨by first | exact q_5935f82f1 h_51 | omega, by first | exact q_63461c6bf h_51 | omega⟩, by first | exact q_88dc5fb99 h_55 | omega, by first | exact q_a060fbdd4 h_52 h_53 h_55 | omega, by first | exact q_69efb464e h_51 | omega⟩) (Or.inr (Or.inl (by first | exact q_e2d2b4ae2 h_51 | omega))) (Or.inr (Or.inl (by first | exact q_e2d2b4ae2 h_51 | omega)))
      · refine v_ic_ne_f (t := 49) c_4_34 rfl (Decidable.not_not.mp h_45) (q_aload_n c_4_37 rfl (q_dup c_4_38 rfl (v_gi (z := 2) (v := (nx F e1 a9)) c_4_39 kf_5_35 rfl (Nat.le_of_ble_eq_true rfl) rfl rfl (hz_12) (q_iconst c_4_42 (v_iadd (v := (nx F e1 a9) + 1) c_4_43 rfl (v_pi (z := 2) c_4_44 kf_5_35 rfl (Nat.le_of_ble_eq_true rfl) rfl rfl rfl (by decide) (q_iload_n c_4_47 rfl ?_)))))))
        refine q_iret c_4_48 rfl (bk_inl (q_iconst c_11_12 (v_ic_ne_t (t := 25) c_11_13 rfl (by decide) (q_vret rfl rfl ?_))))
        have hI_75 := iw_1_2 (v := (nx F e1 a9) + 1) hI_10 ⟨by first | exact q_e260493d5 h_3 h_6 hg_a9 | omega, by first | exact q_6ea34058e h_14 h_2 hr_e1 | omega⟩
        intro hE_76
        have hW : Wd P Q P P (up c_9 1 2 ((nx F e1 a9) + 1)) = Wd P Q P P m9 := (Prod.mk.inj (Prod.mk.inj hE_76).2).1
        have kn_77 : Hid (c_9 1 4 = 0) := (hF_11 1 4 (fun h => absurd h.2 (ni rfl))).trans (hs9)
        have h_78 := ir_1_4 hJ9
        have h_79 : m9 1 4 = 0 := wd_fv (z := 4) 4 rfl hW rfl rfl rfl rfl (by decide) ((up_n (by decide)).trans (hid kn_77)) ⟨by decide, by decide⟩ ⟨(Int.le_trans (by decide) h_78.1), (Int.le_trans h_78.2 (by decide))⟩
        have h_80 := ir_1_2 hJ9
        have h_81 : m9 1 2 = (nx F e1 a9) + 1 := wd_fv (z := 2) 2 rfl hW rfl rfl rfl rfl (by decide) (up_e rfl) ⟨by first | exact q_86633cc1b h_3 h_6 hg_a9 | omega, by first | exact q_1da59465c h_14 h_2 hr_e1 | omega⟩ ⟨(Int.le_trans (by decide) h_80.1), (Int.le_trans h_80.2 (by decide))⟩
        have kn_82 : Hid (c_9 1 5 = (-1)) := (hF_11 1 5 (fun h => absurd h.2 (ni rfl))).trans (hs8)
        have h_83 := ir_1_5 hJ9
        have h_84 : m9 1 5 = (-1) := wd_fv (z := 5) 5 rfl hW rfl rfl rfl rfl (by decide) ((up_n (by decide)).trans (hid kn_82)) ⟨by decide, by decide⟩ ⟨(Int.le_trans (by decide) h_83.1), (Int.le_trans h_83.2 (by decide))⟩
        refine q_aload_n c_161_0 rfl (v_cv c_161_1 km_8_131 rfl rfl (Nat.le_of_ble_eq_true rfl) ⟨⟨rfl, rfl⟩, Nat.le_of_ble_eq_true rfl, rfl⟩ (Nat.le_of_ble_eq_true rfl) (Nat.le_of_ble_eq_true rfl) (q_aload_n c_152_0 rfl ?_))
        have h_85 := ir_41_5 hI
        have h_86 := ir_1_5 hJ
        have h_87 := ir_41_4 hI
        have h_88 := ir_41_6 hI
        have h_89 := rt_ok hRt (by first | (clear h_1 hg_e1 h_2 hr_e1 h_3 hg_a9 hg_f0 h_5 h_6 h_7 h_14 h_45 h_78 h_79 h_80 h_81 h_83 h_84 h_85 h_86 h_87 h_88 h_8; omega) | omega)
        have hro_hRt := rt_ok hRt (by first | assumption | omega)
        refine v_gi (z := 5) (v := (-1)) c_152_1 kf_8_102 rfl (Nat.le_of_ble_eq_true rfl) rfl rfl hro_hRt.2.1 (q_iconst c_152_4 (v_ic_ne_f (t := 12) c_152_5 rfl (by decide) (q_iconst c_152_8 (q_goto (t := 13) c_152_9 rfl (v_zret c_152_13 rfl (by decide) (bk_inl (v_if_eq_f (t := 24) c_161_4 rfl (by decide) ?_)))))))
        refine q_aload_n c_161_7 rfl ?_
        have h_90 : -2147483648 ≤ (H (nx F e1 a9)) ∧ (H (nx F e1 a9)) ≤ 2147483647 := by rw [← hH (nx F e1 a9)]; exact ir_43 hI (nx F e1 a9)
        have h_91 := hU (nx F e1 a9) (by first | exact q_828522d69 h_3 h_6 hg_a9 | omega) (by first | exact q_b03d63f6f h_80 h_81 | omega)
        have h_92 := hb_or (b := H) (e := e1) (r := (nx F e1 a9))
        have h_93 := hb_bd (b := H) (e := e1) (r := (nx F e1 a9)) (lo := -2147483648) (hi := 2147483647) h_90 (by decide)
        refine v_cv c_161_8 km_8_114 rfl rfl (Nat.le_of_ble_eq_true rfl) ⟨⟨rfl, rfl⟩, Nat.le_of_ble_eq_true rfl, rfl⟩ (Nat.le_of_ble_eq_true rfl) (Nat.le_of_ble_eq_true rfl) (f_154 (e1 := e1) (a9 := a9) (B := H) (r8 := (nx F e1 a9)) (r := (hb H e1 (nx F e1 a9))) hI ((hr_e1)) (((hro_hRt.2.2.1).trans ((hg_a9)))) (fun j => hH j) ((nx_tr hU ((rg_eq hg_a9 h_3).1) ((rg_eq hg_e1 h_1).2)).trans (rfl)) rfl (fun c_94 hI_95 hF_96 h_97 => (bk_inl (q_iload_n c_161_11 rfl (v_ic_eq_t (t := 24) c_161_12 rfl (by first | (clear h_1 hg_e1 h_2 hr_e1 h_3 hg_a9 h_4 hg_f0 h_5 h_6 h_7 h_78 h_79 h_80 h_81 h_83 h_84 h_85 h_86 h_87 h_88 h_89 h_90 h_93 h_8; omega) | omega) (q_aload_n c_161_24 rfl (v_cv c_161_25 km_8_131 rfl rfl (Nat.le_of_ble_eq_true rfl) ⟨⟨rfl, rfl⟩, Nat.le_of_ble_eq_true rfl, rfl⟩ (Nat.le_of_ble_eq_true rfl) (Nat.le_of_ble_eq_true rfl) (q_aload_n c_152_0 rfl ?_))))))))
        have kn_98 : Hid (c_94 41 5 = (-1)) := (hF_96 41 5 (fun h => absurd h.2 (ni rfl))).trans hro_hRt.2.1
        refine v_gi (z := 5) (v := (-1)) c_152_1 kf_8_102 rfl (Nat.le_of_ble_eq_true rfl) rfl rfl (hid kn_98) (q_iconst c_152_4 (v_ic_ne_f (t := 12) c_152_5 rfl (by decide) (q_iconst c_152_8 (q_goto (t := 13) c_152_9 rfl (v_zret c_152_13 rfl (by decide) (bk_inl (v_if_eq_f (t := 41) c_161_28 rfl (by decide) ?_)))))))
        refine q_aload_n c_161_31 rfl (q_dup c_161_32 rfl (v_gi (z := 4) (v := (nx F e1 a9)) c_161_33 kf_8_108 rfl (Nat.le_of_ble_eq_true rfl) rfl rfl (h_97) (q_iconst c_161_36 (v_iadd (v := (nx F e1 a9) + 1) c_161_37 rfl (v_pi (z := 4) c_161_38 kf_8_108 rfl (Nat.le_of_ble_eq_true rfl) rfl rfl rfl (by decide) (q_vret rfl rfl ?_))))))
        have hI_99 := iw_41_4 (v := (nx F e1 a9) + 1) hI_95 ⟨by first | exact q_e260493d5 h_3 h_6 hg_a9 | omega, by first | exact q_369ecf7f1 h_80 h_81 | omega⟩
        have h_100 : (up c_94 41 4 ((nx F e1 a9) + 1)) 41 5 = (-1) := ((up_n (by decide)).trans (hid kn_98))
        have h_101 : (up c_94 41 4 ((nx F e1 a9) + 1)) 41 4 = (nx F e1 a9) + 1 := (up_e rfl)
        have kn_102 : Hid (c_94 41 6 = c 41 6) := hF_96 41 6 (fun h => absurd h.2 (ni rfl))
        have h_103 : (up c_94 41 4 ((nx F e1 a9) + 1)) 41 6 = c 41 6 := ((up_n (by decide)).trans (hid kn_102))
        exact K (up c_94 41 4 ((nx F e1 a9) + 1))  hI_99 (fun a j hm => (up_b (Decidable.or_iff_not_imp_left.mpr (fun h1 h2 => hm (Or.inl ⟨Decidable.not_not.mp h1, h2⟩)))).trans (hF_96 a j (fun h => hm (Or.inl h)))) (rt_i1 ⟨by first | exact q_f6b658f58 h_78 h_79 | omega, by first | assumption | omega, by first | exact q_58a890de0 h_81 | omega, by first | exact q_f39655ca6 h_83 h_84 | omega⟩) (Or.inr (Or.inr ⟨by first | exact q_1caa53e22 h_6 h_81 | omega, by first | exact q_639ed28ca h_14 h_81 | omega⟩)) (Or.inr (Or.inr (by first | (clear h_1 hg_e1 h_2 hr_e1 h_3 hg_a9 h_5 h_6 h_7 h_14 h_45 h_78 h_79 h_80 h_81 h_83 h_84 h_85 h_86 h_87 h_88 h_89 h_90 h_91 h_93 h_8 h_92; omega) | omega)))
  · skip
    refine q_aload_n c_11_0 rfl (v_cv c_11_1 km_5_45 rfl rfl (Nat.le_of_ble_eq_true rfl) ⟨⟨rfl, rfl⟩, Nat.le_of_ble_eq_true rfl, rfl⟩ (Nat.le_of_ble_eq_true rfl) (Nat.le_of_ble_eq_true rfl) (q_aload_n c_2_0 rfl (v_gi (z := 4) (v := f0) c_2_1 kf_5_38 rfl (Nat.le_of_ble_eq_true rfl) rfl rfl (hg_f0) (v_if_ne_t (t := 11) c_2_4 rfl ⟨by omega, ⟨(Int.le_trans (by decide) (rg_eq hg_f0 h_4).1), (Int.le_trans (rg_eq hg_f0 h_4).2 (by decide))⟩, by decide, by decide⟩ (q_iconst c_2_11 (v_zret c_2_12 rfl (by decide) (bk_inl ?_)))))))
    refine v_if_eq_t (t := 25) c_11_4 rfl (by decide) (q_vret rfl rfl ?_)
    intro hE_104
    have hW : Wd P Q P P m = Wd P Q P P m9 := (Prod.mk.inj (Prod.mk.inj hE_104).2).1
    have h_105 := ir_1_4 hJ9
    have h_106 : m9 1 4 = f0 := wd_fv (z := 4) 4 rfl hW rfl rfl rfl rfl (by decide) (hg_f0) ⟨(Int.le_trans (by decide) (rg_eq hg_f0 h_4).1), (Int.le_trans (rg_eq hg_f0 h_4).2 (by decide))⟩ ⟨(Int.le_trans (by decide) h_105.1), (Int.le_trans h_105.2 (by decide))⟩
    have h_107 := ir_1_2 hJ9
    have h_108 : m9 1 2 = a9 := wd_fv (z := 2) 2 rfl hW rfl rfl rfl rfl (by decide) (hg_a9) ⟨(Int.le_trans (by decide) (rg_eq hg_a9 h_3).1), (Int.le_trans (rg_eq hg_a9 h_3).2 (by decide))⟩ ⟨(Int.le_trans (by decide) h_107.1), (Int.le_trans h_107.2 (by decide))⟩
    have h_109 := ir_1_5 hJ
    have h_110 := ir_1_5 hJ9
    have h_111 : m9 1 5 = m 1 5 := wd_fv (z := 5) 5 rfl hW rfl rfl rfl rfl (by decide) rfl ⟨(Int.le_trans (by decide) h_109.1), (Int.le_trans h_109.2 (by decide))⟩ ⟨(Int.le_trans (by decide) h_110.1), (Int.le_trans h_110.2 (by decide))⟩
    refine q_aload_n c_161_0 rfl (v_cv c_161_1 km_8_131 rfl rfl (Nat.le_of_ble_eq_true rfl) ⟨⟨rfl, rfl⟩, Nat.le_of_ble_eq_true rfl, rfl⟩ (Nat.le_of_ble_eq_true rfl) (Nat.le_of_ble_eq_true rfl) (q_aload_n c_152_0 rfl ?_))
    have h_112 := ir_41_5 hI
    have h_113 := ir_41_4 hI
    have h_114 := ir_41_6 hI
    have h_115 := rt_bad hRt (by first | (clear h_1 hg_e1 h_2 hr_e1 h_3 hg_a9 h_4 hg_f0 h_105 h_106 h_107 h_108 h_109 h_110 h_111 h_112 h_113 h_114; omega) | omega)
    have hrb_hRt := rt_bad hRt (by first | exact q_5e082ea92 h_115 hg_f0 | omega)
    refine v_gi (z := 5) (v := m 1 5) c_152_1 kf_8_102 rfl (Nat.le_of_ble_eq_true rfl) rfl rfl hrb_hRt.2.1 (q_iconst c_152_4 (v_ic_ne_t (t := 12) c_152_5 rfl ⟨by first | exact q_0f78863d3 h_115 | omega, ⟨(Int.le_trans (by decide) h_109.1), (Int.le_trans h_109.2 (by decide))⟩, by decide, by decide⟩ (q_iconst c_152_12 (v_zret c_152_13 rfl (by decide) (bk_inl (v_if_eq_t (t := 24) c_161_4 rfl (by decide) (q_aload_n c_161_24 rfl ?_)))))))
    refine v_cv c_161_25 km_8_131 rfl rfl (Nat.le_of_ble_eq_true rfl) ⟨⟨rfl, rfl⟩, Nat.le_of_ble_eq_true rfl, rfl⟩ (Nat.le_of_ble_eq_true rfl) (Nat.le_of_ble_eq_true rfl) (q_aload_n c_152_0 rfl (v_gi (z := 5) (v := m 1 5) c_152_1 kf_8_102 rfl (Nat.le_of_ble_eq_true rfl) rfl rfl hrb_hRt.2.1 (q_iconst c_152_4 (v_ic_ne_t (t := 12) c_152_5 rfl ⟨by first | exact q_0f78863d3 h_115 | omega, ⟨(Int.le_trans (by decide) h_109.1), (Int.le_trans h_109.2 (by decide))⟩, by decide, by decide⟩ (q_iconst c_152_12 (v_zret c_152_13 rfl (by decide) (bk_inl ?_)))))))
    refine v_if_eq_t (t := 41) c_161_28 rfl (by decide) (q_vret rfl rfl ?_)
    have h_116 : c 41 5 = m 1 5 := hrb_hRt.2.1
    have h_117 : c 41 6 = f0 := ((hrb_hRt.2.2.2).trans ((hg_f0)))
    exact K c  hI (fun a j hm => rfl) (rt_i2 ⟨⟨by first | exact q_3b8ab523e h_106 h_115 hg_f0 | omega, by first | exact q_c99d6ea93 h_105 | omega⟩, by first | exact q_88dc5fb99 h_111 | omega, by first | exact q_cb71117a2 h_111 h_115 | omega, by first | exact q_88dc5fb99 h_106 | omega⟩) (Or.inr (Or.inl (by first | exact q_2ce17e943 h_106 h_115 hg_f0 | omega))) (Or.inr (Or.inl (by first | exact q_2ce17e943 h_106 h_115 hg_f0 | omega)))

