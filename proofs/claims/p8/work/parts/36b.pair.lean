/-! ===== class and reference side by side 3 ===== -/
theorem qn_bb726c5e9 {A : Nat} (hA : A = 13 ∨ A = 25) : ¬ (((1 : Nat) = 1 ∧ (1 : Int) = 2) ∨ ((1 : Nat) = 1 ∧ (1 : Int) = 4) ∨ ((1 : Nat) = 1 ∧ (1 : Int) = 5) ∨ ((1 : Nat) = A ∧ (1 : Int) = 4) ∨ (1 : Nat) = (A + 4) ∨ (1 : Nat) = (A + 5)) := (fun q => q.elim (fun h => absurd h.2 (ni rfl)) (fun q => q.elim (fun h => absurd h.2 (ni rfl)) (fun q => q.elim (fun h => absurd h.2 (ni rfl)) (fun q => q.elim (fun h => absurd h.1 (pn0 hA rfl)) (fun q => q.elim (fun h => absurd h (pn hA rfl rfl)) (fun h => absurd h (pn hA rfl rfl)))))))
theorem qn_32acee3e7 {A : Nat} {j : Int} (hA : A = 13 ∨ A = 25) : ¬ (((2 : Nat) = 1 ∧ j = 2) ∨ ((2 : Nat) = 1 ∧ j = 4) ∨ ((2 : Nat) = 1 ∧ j = 5) ∨ ((2 : Nat) = A ∧ j = 4) ∨ (2 : Nat) = (A + 4) ∨ (2 : Nat) = (A + 5)) := (fun q => q.elim (fun h => absurd h.1 (nn rfl)) (fun q => q.elim (fun h => absurd h.1 (nn rfl)) (fun q => q.elim (fun h => absurd h.1 (nn rfl)) (fun q => q.elim (fun h => absurd h.1 (pn0 hA rfl)) (fun q => q.elim (fun h => absurd h (pn hA rfl rfl)) (fun h => absurd h (pn hA rfl rfl)))))))
theorem q_0c52c1370 {x0 x1 x2 x3 : Int} (f0 : x0 ≤ x1 ∧ (x1 ≤ x2 ∨ x1 = x0)) (f1 : 0 ≤ x3 ∧ x3 ≤ 600) (f2 : 0 ≤ x0 ∧ x0 ≤ 600) (f3 : x3 = x2) : x1 ≤ 2147483647 := by omega
theorem qn_974b23dce : ¬ (((41 : Nat) = 41 ∧ (3 : Int) = 4) ∨ ((41 : Nat) = 41 ∧ (3 : Int) = 5) ∨ ((41 : Nat) = 41 ∧ (3 : Int) = 6) ∨ (41 : Nat) = 61) := (fun q => q.elim (fun h => absurd h.2 (ni rfl)) (fun q => q.elim (fun h => absurd h.2 (ni rfl)) (fun q => q.elim (fun h => absurd h.2 (ni rfl)) (fun h => absurd h (nn rfl)))))
theorem qn_7235d2764 {j : Int} : ¬ (((43 : Nat) = 41 ∧ j = 4) ∨ ((43 : Nat) = 41 ∧ j = 5) ∨ ((43 : Nat) = 41 ∧ j = 6) ∨ (43 : Nat) = 61) := (fun q => q.elim (fun h => absurd h.1 (nn rfl)) (fun q => q.elim (fun h => absurd h.1 (nn rfl)) (fun q => q.elim (fun h => absurd h.1 (nn rfl)) (fun h => absurd h (nn rfl)))))
theorem q_fca76e340 {x0 x1 x2 : Int} (f0 : x0 = x1) (f1 : (x1 = x2)) : x0 = x2 := by omega
theorem qn_236aabfbd : ¬ (((41 : Nat) = 41 ∧ (22 : Int) = 4) ∨ ((41 : Nat) = 41 ∧ (22 : Int) = 5) ∨ ((41 : Nat) = 41 ∧ (22 : Int) = 6) ∨ (41 : Nat) = 61) := (fun q => q.elim (fun h => absurd h.2 (ni rfl)) (fun q => q.elim (fun h => absurd h.2 (ni rfl)) (fun q => q.elim (fun h => absurd h.2 (ni rfl)) (fun h => absurd h (nn rfl)))))
theorem q_88baa528f {x0 x1 x2 : Int} (f0 : 0 ≤ x0 ∧ x0 ≤ 4) (f1 : (x1 ≤ x2 - 1) ∨ (x1 = 0)) (f2 : x0 = x2) : x1 ≤ 3 := by omega
theorem qv_18666c177 {a : Nat} {j : Int} (hm : ¬ ((a = 41 ∧ j = 4) ∨ (a = 41 ∧ j = 5) ∨ (a = 41 ∧ j = 6) ∨ a = 61)) : ¬ ((a = 41 ∧ j = 4) ∨ (a = 41 ∧ j = 5) ∨ (a = 41 ∧ j = 6)) := (fun q => q.elim (fun h => hm (Or.inl h)) (fun q => q.elim (fun h => hm (Or.inr (Or.inl h))) (fun h => hm (Or.inr (Or.inr (Or.inl h))))))
theorem q_e99da1485 {x0 : Int}  : (x0 + 1) = (x0 + 1) := by omega
theorem q_8a795ae00 {x0 : Int} (f0 : x0 ≠ 8) (f1 : 0 ≤ x0 ∧ x0 ≤ 8) : ¬ x0 = 8 := by omega
theorem q_9c3d50365 {x0 : Int} (f0 : ¬ (x0 ≠ 8)) : 8 < x0 + 1 := by omega
theorem q_6d316ef64 {x0 : Int} (f0 : ¬ (x0 ≠ 8)) (f1 : 0 ≤ x0 ∧ x0 ≤ 8) : x0 = 8 := by omega
theorem q_111774ab2 {x0 x1 : Int} (f0 : (x0 ≥ 0 ∧ x0 ≤ x1 ∧ x0 ≤ 60)) : 0 ≤ x0 := by omega
theorem q_3162967ed {x0 x1 : Int} (f0 : (x0 ≥ 0 ∧ x0 ≤ x1 ∧ x0 ≤ 60)) : x0 ≤ x1 := by omega
theorem q_fb30c34d4 {x0 x1 : Int} (f0 : (x0 ≥ 0 ∧ x0 ≤ x1 ∧ x0 ≤ 60)) : x0 ≤ 60 := by omega
theorem q_25be75120 {x0 x1 : Int} (f0 : (x0 ≥ 0 ∧ x0 ≤ x1 ∧ x0 ≤ 60)) : x0 ≤ 600 := by omega
theorem qn_812f37cf9 : ¬ (((41 : Nat) = 41 ∧ (2 : Int) = 4) ∨ ((41 : Nat) = 41 ∧ (2 : Int) = 5) ∨ ((41 : Nat) = 41 ∧ (2 : Int) = 6) ∨ (41 : Nat) = 61) := (fun q => q.elim (fun h => absurd h.2 (ni rfl)) (fun q => q.elim (fun h => absurd h.2 (ni rfl)) (fun q => q.elim (fun h => absurd h.2 (ni rfl)) (fun h => absurd h (nn rfl)))))
theorem qn_d9cf2859f : ¬ (((41 : Nat) = 41 ∧ (0 : Int) = 4) ∨ ((41 : Nat) = 41 ∧ (0 : Int) = 5) ∨ ((41 : Nat) = 41 ∧ (0 : Int) = 6) ∨ (41 : Nat) = 61) := (fun q => q.elim (fun h => absurd h.2 (ni rfl)) (fun q => q.elim (fun h => absurd h.2 (ni rfl)) (fun q => q.elim (fun h => absurd h.2 (ni rfl)) (fun h => absurd h (nn rfl)))))
theorem qv_0d154537b {a : Nat} {j : Int} (hm : ¬ ((a = 41 ∧ j = 0) ∨ a = 42 ∨ (a = 41 ∧ j = 2) ∨ (a = 41 ∧ j = 3) ∨ (a = 41 ∧ j = 4) ∨ (a = 41 ∧ j = 5) ∨ (a = 41 ∧ j = 6) ∨ (a = 41 ∧ j = 7) ∨ (a = 41 ∧ j = 8) ∨ (a = 41 ∧ j = 47) ∨ a = 61 ∨ a = 62)) : ¬ ((a = 41 ∧ j = 4) ∨ (a = 41 ∧ j = 5) ∨ (a = 41 ∧ j = 6) ∨ a = 61) := (fun q => q.elim (fun h => hm (Or.inr (Or.inr (Or.inr (Or.inr (Or.inl h)))))) (fun q => q.elim (fun h => hm (Or.inr (Or.inr (Or.inr (Or.inr (Or.inr (Or.inl h))))))) (fun q => q.elim (fun h => hm (Or.inr (Or.inr (Or.inr (Or.inr (Or.inr (Or.inr (Or.inl h)))))))) (fun h => hm (Or.inr (Or.inr (Or.inr (Or.inr (Or.inr (Or.inr (Or.inr (Or.inr (Or.inr (Or.inr (Or.inl h)))))))))))))))
theorem q_a172e8945 {x0 x1 x2 x3 : Int} (f0 : 0 ≤ x0 ∧ x0 ≤ 3) (f1 : ¬ (x0 ≠ 0)) (f2 : x1 = x2) (f3 : (x0 < 0) ∨ (x0 > 0) ∨ (x2 = x3)) : x3 = x1 := by omega
theorem qn_bd2c2ec23 {A : Nat} (hA : A = 13 ∨ A = 25) : ¬ (((1 : Nat) = 1 ∧ (1 : Int) = 2) ∨ ((1 : Nat) = 1 ∧ (1 : Int) = 4) ∨ ((1 : Nat) = 1 ∧ (1 : Int) = 5) ∨ ((1 : Nat) = A ∧ (1 : Int) = 5) ∨ (1 : Nat) = (A + 5) ∨ (1 : Nat) = (A + 6)) := (fun q => q.elim (fun h => absurd h.2 (ni rfl)) (fun q => q.elim (fun h => absurd h.2 (ni rfl)) (fun q => q.elim (fun h => absurd h.2 (ni rfl)) (fun q => q.elim (fun h => absurd h.1 (pn0 hA rfl)) (fun q => q.elim (fun h => absurd h (pn hA rfl rfl)) (fun h => absurd h (pn hA rfl rfl)))))))
theorem qn_870496478 {A : Nat} {j : Int} (hA : A = 13 ∨ A = 25) : ¬ (((2 : Nat) = 1 ∧ j = 2) ∨ ((2 : Nat) = 1 ∧ j = 4) ∨ ((2 : Nat) = 1 ∧ j = 5) ∨ ((2 : Nat) = A ∧ j = 5) ∨ (2 : Nat) = (A + 5) ∨ (2 : Nat) = (A + 6)) := (fun q => q.elim (fun h => absurd h.1 (nn rfl)) (fun q => q.elim (fun h => absurd h.1 (nn rfl)) (fun q => q.elim (fun h => absurd h.1 (nn rfl)) (fun q => q.elim (fun h => absurd h.1 (pn0 hA rfl)) (fun q => q.elim (fun h => absurd h (pn hA rfl rfl)) (fun h => absurd h (pn hA rfl rfl)))))))
theorem qn_bb859264f : ¬ (((41 : Nat) = 41 ∧ (3 : Int) = 4) ∨ ((41 : Nat) = 41 ∧ (3 : Int) = 5) ∨ ((41 : Nat) = 41 ∧ (3 : Int) = 6) ∨ (41 : Nat) = 63) := (fun q => q.elim (fun h => absurd h.2 (ni rfl)) (fun q => q.elim (fun h => absurd h.2 (ni rfl)) (fun q => q.elim (fun h => absurd h.2 (ni rfl)) (fun h => absurd h (nn rfl)))))
theorem qn_a54ac4a59 {j : Int} : ¬ (((43 : Nat) = 41 ∧ j = 4) ∨ ((43 : Nat) = 41 ∧ j = 5) ∨ ((43 : Nat) = 41 ∧ j = 6) ∨ (43 : Nat) = 63) := (fun q => q.elim (fun h => absurd h.1 (nn rfl)) (fun q => q.elim (fun h => absurd h.1 (nn rfl)) (fun q => q.elim (fun h => absurd h.1 (nn rfl)) (fun h => absurd h (nn rfl)))))
theorem q_51d464dd6 {x0 : Int} (f0 : (x0 ≤ 3) ∨ (x0 = 0)) : x0 < 4 := by omega
theorem qv_89aead39f {a : Nat} {j : Int} (hm : ¬ ((a = 41 ∧ j = 4) ∨ (a = 41 ∧ j = 5) ∨ (a = 41 ∧ j = 6) ∨ a = 63)) : ¬ ((a = 41 ∧ j = 4) ∨ (a = 41 ∧ j = 5) ∨ (a = 41 ∧ j = 6)) := (fun q => q.elim (fun h => hm (Or.inl h)) (fun q => q.elim (fun h => hm (Or.inr (Or.inl h))) (fun h => hm (Or.inr (Or.inr (Or.inl h))))))
theorem q_a370a780a {x0 x1 : Int} (f0 : (-1) ≤ x0 ∧ x0 ≤ 9999) (f1 : x1 = x0) (f2 : x1 = (-1)) : x0 = (-1) := by omega
theorem q_1bf3b20be {x0 : Int} (f0 : 0 ≤ x0 ∧ x0 ≤ 5) : (-2147483648) ≤ x0 := by omega
theorem q_1fdab22f2 {x0 : Int} (f0 : 0 ≤ x0 ∧ x0 ≤ 5) : x0 ≤ 2147483647 := by omega
theorem q_5217f92b8 {x0 x1 : Int} (f0 : x0 = x1) (f1 : (-1) ≤ x0 ∧ x0 ≤ 9999) (f2 : ¬ (x0 = (-1))) : ¬ x1 = (-1) := by omega
theorem qn_a3061adf4 : ¬ (((41 : Nat) = 41 ∧ (2 : Int) = 4) ∨ ((41 : Nat) = 41 ∧ (2 : Int) = 5) ∨ ((41 : Nat) = 41 ∧ (2 : Int) = 6) ∨ (41 : Nat) = 63) := (fun q => q.elim (fun h => absurd h.2 (ni rfl)) (fun q => q.elim (fun h => absurd h.2 (ni rfl)) (fun q => q.elim (fun h => absurd h.2 (ni rfl)) (fun h => absurd h (nn rfl)))))
theorem qn_e8caa6fa3 : ¬ (((41 : Nat) = 41 ∧ (0 : Int) = 4) ∨ ((41 : Nat) = 41 ∧ (0 : Int) = 5) ∨ ((41 : Nat) = 41 ∧ (0 : Int) = 6) ∨ (41 : Nat) = 63) := (fun q => q.elim (fun h => absurd h.2 (ni rfl)) (fun q => q.elim (fun h => absurd h.2 (ni rfl)) (fun q => q.elim (fun h => absurd h.2 (ni rfl)) (fun h => absurd h (nn rfl)))))
theorem qv_03e0300b9 {a : Nat} {j : Int} (hm : ¬ ((a = 41 ∧ j = 0) ∨ a = 42 ∨ (a = 41 ∧ j = 2) ∨ (a = 41 ∧ j = 3) ∨ (a = 41 ∧ j = 4) ∨ (a = 41 ∧ j = 5) ∨ (a = 41 ∧ j = 6) ∨ (a = 41 ∧ j = 7) ∨ (a = 41 ∧ j = 8) ∨ (a = 41 ∧ j = 48) ∨ a = 63 ∨ a = 64)) : ¬ ((a = 41 ∧ j = 4) ∨ (a = 41 ∧ j = 5) ∨ (a = 41 ∧ j = 6) ∨ a = 63) := (fun q => q.elim (fun h => hm (Or.inr (Or.inr (Or.inr (Or.inr (Or.inl h)))))) (fun q => q.elim (fun h => hm (Or.inr (Or.inr (Or.inr (Or.inr (Or.inr (Or.inl h))))))) (fun q => q.elim (fun h => hm (Or.inr (Or.inr (Or.inr (Or.inr (Or.inr (Or.inr (Or.inl h)))))))) (fun h => hm (Or.inr (Or.inr (Or.inr (Or.inr (Or.inr (Or.inr (Or.inr (Or.inr (Or.inr (Or.inr (Or.inl h)))))))))))))))
theorem q_bc493783e {x0 x1 x2 x3 : Int} (f0 : x0 ≥ x1) (f1 : (x0 < x1 ∧ x2 = x3) ∨ (x1 ≤ x0 ∧ x2 = 0)) : ¬ x2 = 41 := by omega
theorem q_ea4577a89 {x0 x1 x2 x3 : Int} (f0 : x0 ≥ x1) (f1 : (x0 < x1 ∧ x2 = x3) ∨ (x1 ≤ x0 ∧ x2 = 0)) : ¬ x2 = 91 := by omega
theorem q_681a4615b {x0 x1 x2 x3 : Int} (f0 : x0 ≥ x1) (f1 : (x0 < x1 ∧ x2 = x3) ∨ (x1 ≤ x0 ∧ x2 = 0)) : ¬ x2 = 44 := by omega
set_option maxRecDepth 100000 in
set_option maxHeartbeats 4000000 in
theorem L_35_l {sc : List Int32} {e eg : Int} {d dh u ug P Q P2 Q2 A : Nat} {c m m9 : ME} {a1 e1 f0 g0 si : Int} {F H : Int → Int} {Z : AR → Prop} (hI : Iv u e P2 Q2 c) (hJ : Iv ug eg P Q m) (hJ9 : Iv ug eg P Q m9) (hA : A = 13 ∨ A = 25) (ha1 : (-2147483648) ≤ a1 ∧ a1 ≤ 2147483647) (hq0 : (f0 = 0)) (hq1 : (g0 = (-1))) (hg_e1 : m 1 1 = e1) (hr_e1 : c 41 3 = e1) (hg_f0 : m 1 4 = f0) (hg_g0 : m 1 5 = g0) (hg_si : m A 2 = si) (hr_si : c 41 22 = si) (hF : ∀ j : Int, m 2 j = F j) (hH : ∀ j : Int, c 43 j = H j) (hU : Ub F H) (hRt : Rt m c) (K : ∀ (c2 : ME) (y : Int), Iv u e P2 Q2 c2 → (∀ (a : Nat) (j : Int), ¬ ((a = 41 ∧ j = 4) ∨ (a = 41 ∧ j = 5) ∨ (a = 41 ∧ j = 6) ∨ a = 61) → c2 a j = c a j) → 0 ≤ y ∧ y ≤ 8 → (Rt m9 c2) → ((m9 1 4 < 0) ∨ (m9 1 4 > 0) ∨ (m9 A 4 = y)) → Wp sc (d + 22) 206 103 [(0, .ref 41), (1, vi a1), (2, vi y)] [] (Wd P2 Q2 P2 P2 c2) 0 0 Z) : ∀ n : Nat, (∀ (c2 m2 : ME) (v : Int) (rd : Int) (a : Int), Iv u e P2 Q2 c2 → (∀ (a : Nat) (j : Int), ¬ ((a = 41 ∧ j = 4) ∨ (a = 41 ∧ j = 5) ∨ (a = 41 ∧ j = 6) ∨ a = 61) → c2 a j = c a j) → Iv ug eg P Q m2 → (∀ (a : Nat) (j : Int), ¬ ((a = 1 ∧ j = 2) ∨ (a = 1 ∧ j = 4) ∨ (a = 1 ∧ j = 5) ∨ (a = A ∧ j = 4) ∨ a = (A + 4) ∨ a = (A + 5)) → m2 a j = m a j) → 0 ≤ v ∧ v ≤ 8 → 0 ≤ rd ∧ rd ≤ 8 → 0 ≤ a ∧ a ≤ 600 → m2 1 2 = a → c2 41 4 = a → m2 1 4 = 0 → c2 41 5 = (-1) → m2 1 5 = (-1) → (∀ j : Int, 0 ≤ j → j < rd → 0 ≤ m2 (A + 5) j ∧ m2 (A + 5) j ≤ 3) → ((rd = v)) → Wp sc (dh + 30) 35 4 [(0, .ref A), (1, .ref 1), (2, vi rd), (3, vi v)] [] (Wd P Q P P m2) 0 0 (fun q => q = (.inl (none), Wd P Q P P m9, 0, 0)) → 9 - v < (n : Int) → Wp sc (d + 22) 206 22 [(0, .ref 41), (1, vi a1), (2, vi v)] [] (Wd P2 Q2 P2 P2 c2) 0 0 Z)
  | 0 => by intro c2 m2 v rd a hI2 hFc hJ2 hFm hv hrd ha hg_a hr_a hc_0 hc_1 hc_2 hx0 hx1 hG2 hm9; exfalso; omega
  | n + 1 => by
    have hP := iv_P hJ
    have hQ := iv_Q hJ
    have ih := L_35_l (sc := sc) (d := d) (dh := dh) hI hJ hJ9 hA ha1 hq0 hq1 hg_e1 hr_e1 hg_f0 hg_g0 hg_si hr_si hF hH hU hRt K n
    intro c2 m2 v rd a hI2 hFc hJ2 hFm hv hrd ha hg_a hr_a hc_0 hc_1 hc_2 hx0 hx1 hG2 hm9
    have h_1 := ir_1_1 hJ
    have h_2 := ir_41_3 hI
    have h_3 := ir_1_4 hJ
    have h_4 := ir_1_5 hJ
    have h_5 := ir_p0_2 hJ hA
    have h_6 := ir_41_22 hI
    have h_7 := ir_1_2 hJ2
    have h_8 := ir_41_4 hI2
    have h_9 := ir_1_4 hJ2
    have h_10 := ir_41_5 hI2
    have h_11 := ir_1_5 hJ2
    refine gh hG2 (q_iload_n c_35_4 rfl (v_bip c_35_5 (by decide) (v_ic_gt_f (t := 75) c_35_7 rfl ⟨(Int.le_trans (by decide) hv.1), (Int.le_trans hv.2 (by decide)), by decide⟩ (q_aload_n c_35_10 rfl (v_cv c_35_11 km_2_44 rfl rfl (Nat.le_of_ble_eq_true rfl) ⟨⟨rfl, rfl⟩, Nat.le_of_ble_eq_true rfl, rfl⟩ (Nat.le_of_ble_eq_true rfl) (Nat.le_of_ble_eq_true rfl) (q_aload_n c_15_0 rfl (v_cv c_15_1 km_5_45 rfl rfl (Nat.le_of_ble_eq_true rfl) ⟨⟨rfl, rfl⟩, Nat.le_of_ble_eq_true rfl, rfl⟩ (Nat.le_of_ble_eq_true rfl) (Nat.le_of_ble_eq_true rfl) ?_)))))))
    refine q_aload_n c_2_0 rfl (v_gi (z := 4) (v := 0) c_2_1 kf_5_38 rfl (Nat.le_of_ble_eq_true rfl) rfl rfl (hc_0) (v_if_ne_f (t := 11) c_2_4 rfl (by decide) (q_iconst c_2_7 (q_goto (t := 12) c_2_8 rfl (v_zret c_2_12 rfl (by decide) (bk_inl (v_if_eq_f (t := 22) c_15_4 rfl (by decide) ?_)))))))
    refine q_aload_n c_15_7 rfl ?_
    have kn_12 : Hid (m2 1 1 = e1) := (hFm 1 1 (qn_bb726c5e9 hA)).trans (hg_e1)
    have h_13 : -2147483648 ≤ (F a) ∧ (F a) ≤ 2147483647 := by rw [← hF a]; exact ir_2 hJ a
    have h_14 := nx_bd (b := F) (e := e1) (a := a)
    have h_15 : -2147483648 ≤ (F (nx F e1 a)) ∧ (F (nx F e1 a)) ≤ 2147483647 := by rw [← hF (nx F e1 a)]; exact ir_2 hJ (nx F e1 a)
    have h_16 := nx_n (b := F) (e := e1) (a := a)
    refine v_cv c_15_8 km_5_41 rfl rfl (Nat.le_of_ble_eq_true rfl) ⟨⟨rfl, rfl⟩, Nat.le_of_ble_eq_true rfl, rfl⟩ (Nat.le_of_ble_eq_true rfl) (Nat.le_of_ble_eq_true rfl) (f_3 (e1 := e1) (a9 := a) (B := F) (r8 := (nx F e1 a)) hJ2 ((hid kn_12)) ((hg_a)) (fun j => (hFm 2 j (qn_32acee3e7 hA)).trans (hF j)) rfl (fun c_17 hI_18 hF_19 hz_20 => (bk_inl (q_aload_n c_15_11 rfl ?_))))
    have kn_21 : Hid (c_17 1 1 = e1) := (hF_19 1 1 (fun h => absurd h.2 (ni rfl))).trans (hid kn_12)
    refine v_gi (z := 1) (v := e1) c_15_12 kf_5_32 rfl (Nat.le_of_ble_eq_true rfl) rfl rfl (hid kn_21) ?_
    by_cases h_22 : (nx F e1 a) ≥ e1
    · refine v_ic_ge_t (t := 22) c_15_15 rfl ⟨(Int.le_trans (by decide) (rg_eq hg_e1 h_1).1), h_22, by first | exact q_0c52c1370 h_14 h_2 ha hr_e1 | omega⟩ (q_iconst c_15_22 (v_zret c_15_23 rfl (by decide) (bk_inl (v_if_eq_t (t := 75) c_35_14 rfl (by decide) (q_aload_n c_35_75 rfl (v_cv c_35_76 km_2_68 rfl rfl (Nat.le_of_ble_eq_true rfl) ⟨⟨rfl, rfl⟩, Nat.le_of_ble_eq_true rfl, rfl⟩ (Nat.le_of_ble_eq_true rfl) (Nat.le_of_ble_eq_true rfl) (q_aload_n c_2_0 rfl ?_)))))))
      have kn_23 : Hid (c_17 1 4 = 0) := (hF_19 1 4 (fun h => absurd h.2 (ni rfl))).trans (hc_0)
      refine v_gi (z := 4) (v := 0) c_2_1 kf_5_38 rfl (Nat.le_of_ble_eq_true rfl) rfl rfl (hid kn_23) (v_if_ne_f (t := 11) c_2_4 rfl (by decide) (q_iconst c_2_7 (q_goto (t := 12) c_2_8 rfl (v_zret c_2_12 rfl (by decide) (bk_inl (v_if_eq_f (t := 102) c_35_79 rfl (by decide) (q_aload_n c_35_82 rfl ?_)))))))
      refine v_gr (t := (A + 5)) c_35_83 kf_2_28 (ck_p0 hA) (a68z hA) rfl (q_iconst c_35_86 (q_aload_n c_35_87 rfl (v_gr (t := (A + 4)) c_35_88 kf_2_25 (ck_p0 hA) (a68z hA) rfl (q_iconst c_35_91 (v_bip c_35_92 (by decide) (v_cpy c_35_94 rfl (ck_p4 hA) (a68 hA rfl) (ck_p5 hA) (a68 hA rfl) rfl rfl (by omega) (Nat.le_of_ble_eq_true rfl) (by omega) (q_aload_n c_35_97 rfl ?_)))))))
      refine q_iload_n c_35_98 rfl (v_pi (z := 4) c_35_99 kf_2_90 (ck_p0 hA) (a68z hA) rfl rfl rfl (by decide) (q_vret rfl rfl ?_))
      have hr_26 : ∀ j : Int, 0 ≤ j → j < rd → 0 ≤ c_17 (A + 5) j ∧ c_17 (A + 5) j ≤ 3 := by
        intro j hj1 hj2
        have q9 : c_17 (A + 5) j = m2 (A + 5) j := hF_19 (A + 5) j (by omega)
        rw [q9]
        exact hx0 j hj1 (by omega)
      have hI_25 := iw_stk (v := rd) hI_18 hA ⟨by omega, by omega⟩ hr_26
      intro hE_27
      have hW : Wd P Q P P (up (upc c_17 (A + 5) 0 (A + 4) 0 8) A 4 rd) = Wd P Q P P m9 := (Prod.mk.inj (Prod.mk.inj hE_27).2).1
      have h_28 := ir_1_4 hJ9
      have h_29 : m9 1 4 = 0 := wd_fv (z := 4) 4 rfl hW rfl rfl rfl rfl (by decide) ((up_c (pn0 hA rfl)).trans ((upc_c (by omega)).trans (hid kn_23))) ⟨by decide, by decide⟩ ⟨(Int.le_trans (by decide) h_28.1), (Int.le_trans h_28.2 (by decide))⟩
      have h_30 := ir_1_2 hJ9
      have h_31 : m9 1 2 = (nx F e1 a) := wd_fv (z := 2) 2 rfl hW rfl rfl rfl rfl (by decide) ((up_c (pn0 hA rfl)).trans ((upc_c (by omega)).trans (hz_20))) ⟨by first | exact q_378c2316e h_14 ha | omega, by first | exact q_0c52c1370 h_14 h_2 ha hr_e1 | omega⟩ ⟨(Int.le_trans (by decide) h_30.1), (Int.le_trans h_30.2 (by decide))⟩
      have kn_32 : Hid (c_17 1 5 = (-1)) := (hF_19 1 5 (fun h => absurd h.2 (ni rfl))).trans (hc_2)
      have h_33 := ir_1_5 hJ9
      have h_34 : m9 1 5 = (-1) := wd_fv (z := 5) 5 rfl hW rfl rfl rfl rfl (by decide) ((up_c (pn0 hA rfl)).trans ((upc_c (by omega)).trans (hid kn_32))) ⟨by decide, by decide⟩ ⟨(Int.le_trans (by decide) h_33.1), (Int.le_trans h_33.2 (by decide))⟩
      have h_35 := ir_p0_4 hJ9 hA
      have h_36 : m9 A 4 = rd := wd_fv (z := 4) 4 rfl hW (ck_p0 hA) (ck_p0 hA) rfl rfl (a68z hA) (up_e rfl) ⟨(Int.le_trans (by decide) hrd.1), (Int.le_trans hrd.2 (by decide))⟩ ⟨(Int.le_trans (by decide) h_35.1), (Int.le_trans h_35.2 (by decide))⟩
      refine q_aload_n c_206_22 rfl (v_cv c_206_23 km_8_131 rfl rfl (Nat.le_of_ble_eq_true rfl) ⟨⟨rfl, rfl⟩, Nat.le_of_ble_eq_true rfl, rfl⟩ (Nat.le_of_ble_eq_true rfl) (Nat.le_of_ble_eq_true rfl) (q_aload_n c_152_0 rfl (v_gi (z := 5) (v := (-1)) c_152_1 kf_8_102 rfl (Nat.le_of_ble_eq_true rfl) rfl rfl (hc_1) (q_iconst c_152_4 (v_ic_ne_f (t := 12) c_152_5 rfl (by decide) (q_iconst c_152_8 (q_goto (t := 13) c_152_9 rfl ?_)))))))
      refine v_zret c_152_13 rfl (by decide) (bk_inl (v_if_eq_f (t := 103) c_206_26 rfl (by decide) (q_aload_n c_206_29 rfl (v_cv c_206_30 km_8_211 rfl rfl (Nat.le_of_ble_eq_true rfl) ⟨⟨rfl, rfl⟩, Nat.le_of_ble_eq_true rfl, rfl⟩ (Nat.le_of_ble_eq_true rfl) (Nat.le_of_ble_eq_true rfl) (q_aload_n c_162_0 rfl ?_)))))
      have kn_37 : Hid (c2 41 3 = e1) := (hFc 41 3 qn_974b23dce).trans (hr_e1)
      have h_38 : -2147483648 ≤ (H (nx F e1 a)) ∧ (H (nx F e1 a)) ≤ 2147483647 := by rw [← hH (nx F e1 a)]; exact ir_43 hI (nx F e1 a)
      have h_39 : (nx F e1 a) < 600 → (H (nx F e1 a)) = (F (nx F e1 a)) % 256 ∧ -128 ≤ (F (nx F e1 a)) ∧ (F (nx F e1 a)) ≤ 127 := fun q => hU (nx F e1 a) (by omega) q
      have h_40 := hb_or (b := H) (e := e1) (r := (nx F e1 a))
      have h_41 := hb_bd (b := H) (e := e1) (r := (nx F e1 a)) (lo := -2147483648) (hi := 2147483647) h_38 (by decide)
      refine v_cv c_162_1 km_8_114 rfl rfl (Nat.le_of_ble_eq_true rfl) ⟨⟨rfl, rfl⟩, Nat.le_of_ble_eq_true rfl, rfl⟩ (Nat.le_of_ble_eq_true rfl) (Nat.le_of_ble_eq_true rfl) (f_154 (e1 := e1) (a9 := a) (B := H) (r8 := (nx F e1 a)) (r := (hb H e1 (nx F e1 a))) hI2 ((hid kn_37)) ((hr_a)) (fun j => (hFc 43 j qn_7235d2764).trans (hH j)) ((nx_tr hU (ha.1) ((rg_eq hg_e1 h_1).2)).trans (rfl)) rfl (fun c_42 hI_43 hF_44 h_45 => (bk_inl (q_pop c_162_4 rfl (q_aload_n c_162_5 rfl (v_gi (z := 4) (v := (nx F e1 a)) c_162_6 kf_8_108 rfl (Nat.le_of_ble_eq_true rfl) rfl rfl (h_45) (q_aload_n c_162_9 rfl ?_)))))))
      have kn_46 : Hid (c_42 41 3 = e1) := (hF_44 41 3 (fun h => absurd h.2 (ni rfl))).trans (hid kn_37)
      refine v_gi (z := 3) (v := e1) c_162_10 kf_8_111 rfl (Nat.le_of_ble_eq_true rfl) rfl rfl (hid kn_46) (v_ic_ge_t (t := 20) c_162_13 rfl ⟨(Int.le_trans (by decide) (rg_eq hg_e1 h_1).1), by first | exact q_a29fbb6d7 h_22 | omega, by first | exact q_757c304f4 h_30 h_31 | omega⟩ (q_iconst c_162_20 (v_zret c_162_21 rfl (by decide) (bk_inl (v_if_eq_t (t := 103) c_206_33 rfl (by decide) (Wp_ls [(0, .ref 41), (1, vi a1), (2, vi v)] (lsub_cons rfl (lsub_cons rfl (lsub_cons rfl lsub_nil))) ?_))))))
      have kn_47 : Hid (c_42 41 5 = (-1)) := (hF_44 41 5 (fun h => absurd h.2 (ni rfl))).trans (hc_1)
      have h_48 : c_42 41 5 = (-1) := (hid kn_47)
      have h_49 : c_42 41 4 = (nx F e1 a) := (h_45)
      have h_50 := ir_41_6 hI2
      have kn_51 : Hid (c_42 41 6 = c2 41 6) := hF_44 41 6 (fun h => absurd h.2 (ni rfl))
      have h_52 : c_42 41 6 = c2 41 6 := (hid kn_51)
      exact K c_42 v hI_43 (fun a j hm => (hF_44 a j (fun h => hm (Or.inl h))).trans (hFc a j hm)) ⟨by omega, by omega⟩ (rt_i1 ⟨by first | exact q_f6b658f58 h_28 h_29 | omega, by first | assumption | omega, by first | exact q_88dc5fb99 h_31 | omega, by first | exact q_f39655ca6 h_33 h_34 | omega⟩) (Or.inr (Or.inr (by first | exact q_fca76e340 h_36 hx1 | omega)))
    · refine v_ic_ge_f (t := 22) c_15_15 rfl ⟨by first | exact q_378c2316e h_14 ha | omega, (Int.not_le.mp h_22), (Int.le_trans (rg_eq hg_e1 h_1).2 (by decide))⟩ (q_iconst c_15_18 (q_goto (t := 23) c_15_19 rfl (v_zret c_15_23 rfl (by decide) (bk_inl (v_if_eq_f (t := 75) c_35_14 rfl (by decide) (q_aload_n c_35_17 rfl (v_cv c_35_18 km_2_50 rfl rfl (Nat.le_of_ble_eq_true rfl) ⟨⟨rfl, rfl⟩, Nat.le_of_ble_eq_true rfl, rfl⟩ (Nat.le_of_ble_eq_true rfl) (Nat.le_of_ble_eq_true rfl) (f_3 (e1 := e1) (a9 := (nx F e1 a)) (B := F) (r8 := (nx F e1 a)) hI_18 ((hid kn_21)) ((hz_20)) (fun j => ((hF_19 2 j (fun h => absurd h.1 (nn rfl))).trans (hFm 2 j (qn_32acee3e7 hA))).trans (hF j)) (nx_z (Or.inr (by first | exact q_b1e7f72d7 h_16 h_22 | omega))) (fun c_53 hI_54 hF_55 hz_56 => ?_)))))))))
      refine bk_inl (q_istore c_35_21 (Nat.le_of_ble_eq_true rfl) (q_aload_n c_35_23 rfl (q_aload_n c_35_24 rfl ?_)))
      have kn_57 : Hid (m2 A 2 = si) := (hFm A 2 (qn_14d462bd8 hA)).trans (hg_si)
      have kn_58 : Hid (c_17 A 2 = si) := (hF_19 A 2 (fun h => absurd h.1 (np0 hA rfl))).trans (hid kn_57)
      have kn_59 : Hid (c_53 A 2 = si) := (hF_55 A 2 (fun h => absurd h.1 (np0 hA rfl))).trans (hid kn_58)
      refine v_gi (z := 2) (v := si) c_35_25 kf_2_87 (ck_p0 hA) (a68z hA) rfl rfl (hid kn_59) (q_iconst c_35_28 (v_isub (v := si - 1) c_35_29 rfl ?_))
      have kn_60 : Hid (c_17 1 4 = 0) := (hF_19 1 4 (fun h => absurd h.2 (ni rfl))).trans (hc_0)
      have kn_61 : Hid (c_53 1 4 = 0) := (hF_55 1 4 (fun h => absurd h.2 (ni rfl))).trans (hid kn_60)
      refine v_cv c_35_30 km_2_101 rfl rfl (Nat.le_of_ble_eq_true rfl) ⟨⟨rfl, rfl⟩, Nat.le_of_ble_eq_true rfl, rfl⟩ (Nat.le_of_ble_eq_true rfl) (Nat.le_of_ble_eq_true rfl) (fn_of (s_8 (a1 := si - 1) hI_54 (show (-1) ≤ si - 1 ∧ si - 1 ≤ 9999 from ⟨by first | exact rgm_l (rg_eq hg_si h_5).1 (by decide) | omega, by first | exact rgm_h (rg_eq hg_si h_5).2 (by decide) | omega⟩) (fun c_62 y_65 hI_63 hF_64 hy_65 h_66 => ?_)))
      intro hG_67
      refine bk_inl (q_istore c_35_33 (Nat.le_of_ble_eq_true rfl) (q_iload_n c_35_35 rfl (v_bip c_35_36 (by decide) ?_)))
      by_cases h_68 : v ≠ 8
      · refine v_ic_ne_t (t := 51) c_35_38 rfl ⟨h_68, ⟨(Int.le_trans (by decide) hv.1), (Int.le_trans hv.2 (by decide))⟩, by decide, by decide⟩ (q_aload_n c_35_51 rfl (v_gr (t := (A + 5)) c_35_52 kf_2_28 (ck_p0 hA) (a68z hA) rfl (q_iload_n c_35_55 rfl (q_iload c_35_56 rfl (v_is c_35_58 (ck_p5 hA) (a68 hA rfl) (by decide) ⟨hv.1, by first | exact q_dcc5894f5 h_68 hv | omega⟩ (q_iload_n c_35_59 rfl (q_iconst c_35_60 ?_)))))))
        refine v_iadd (v := v + 1) c_35_61 rfl (q_istore_n c_35_62 (Nat.le_of_ble_eq_true rfl) (q_aload_n c_35_63 rfl (q_ldc_s c_35_64 rfl rfl (by decide) ?_)))
        have h_69 := ir_1_4 hI_63
        have hI_70 := iw_p5 (j := v) (v := y_65) hI_63 hA ⟨(Int.le_trans (by decide) hy_65.1), hy_65.2⟩
        refine v_cv c_35_66 km_2_77 rfl rfl (Nat.le_of_ble_eq_true rfl) ⟨⟨rfl, rfl⟩, Nat.le_of_ble_eq_true rfl, rfl⟩ (Nat.le_of_ble_eq_true rfl) (Nat.le_of_ble_eq_true rfl) (fn_of (s_11 hI_70 (q := 9) (nt := 1) (by decide) (by decide) (by decide) (fun c_71 hI_72 hF_73 => ?_)))
        intro hG_74
        refine bk_inl (v_iinc (v := v + 1) c_35_69 rfl (Nat.le_of_ble_eq_true rfl) rfl (q_goto (t := 4) c_35_72 rfl ?_))
        have h_75 := ir_1_4 hI_72
        by_cases h_76 : c_71 1 4 = 0
        · skip
          refine Wp_ls [(0, .ref A), (1, .ref 1), (2, vi (v + 1)), (3, vi (v + 1))] (lsub_cons rfl (lsub_cons rfl (lsub_cons rfl (lsub_cons rfl lsub_nil)))) ?_
          have hr_78 : ∀ j : Int, 0 ≤ j → j < v + 1 → 0 ≤ c_71 (A + 5) j ∧ c_71 (A + 5) j ≤ 3 := by
            intro j hj1 hj2
            by_cases e9 : j = v
            · have q9 : c_71 (A + 5) j = y_65 := (hF_73 (A + 5) j (by omega)).trans (up_e e9)
              rw [q9]
              omega
            · have q9 : c_71 (A + 5) j = m2 (A + 5) j := (hF_73 (A + 5) j (by omega)).trans ((up_n e9).trans ((hF_64 (A + 5) j (by omega)).trans ((hF_55 (A + 5) j (by omega)).trans (hF_19 (A + 5) j (by omega)))))
              rw [q9]
              exact hx0 j hj1 (by omega)
          refine gh_stop (s_35_l (sc := sc) (d := dh + 20) (c := c_71) (Z := fun _ => True) hI_72 hA (fun _ _ _ => trivial) 20 c_71 (v + 1) (v + 1) hI_72 (fun a j hm => rfl) ⟨by omega, by omega⟩ ⟨by omega, by omega⟩ hr_78 (by omega) (by omega)) (fun hG_77 => (q_aload_n c_206_22 rfl (v_cv c_206_23 km_8_131 rfl rfl (Nat.le_of_ble_eq_true rfl) ⟨⟨rfl, rfl⟩, Nat.le_of_ble_eq_true rfl, rfl⟩ (Nat.le_of_ble_eq_true rfl) (Nat.le_of_ble_eq_true rfl) (q_aload_n c_152_0 rfl (v_gi (z := 5) (v := (-1)) c_152_1 kf_8_102 rfl (Nat.le_of_ble_eq_true rfl) rfl rfl (hc_1) (q_iconst c_152_4 (v_ic_ne_f (t := 12) c_152_5 rfl (by decide) (q_iconst c_152_8 ?_))))))))
          refine q_goto (t := 13) c_152_9 rfl (v_zret c_152_13 rfl (by decide) (bk_inl (v_if_eq_f (t := 103) c_206_26 rfl (by decide) (q_aload_n c_206_29 rfl (v_cv c_206_30 km_8_211 rfl rfl (Nat.le_of_ble_eq_true rfl) ⟨⟨rfl, rfl⟩, Nat.le_of_ble_eq_true rfl, rfl⟩ (Nat.le_of_ble_eq_true rfl) (Nat.le_of_ble_eq_true rfl) (q_aload_n c_162_0 rfl ?_))))))
          have kn_79 : Hid (c2 41 3 = e1) := (hFc 41 3 qn_974b23dce).trans (hr_e1)
          have h_80 : -2147483648 ≤ (H (nx F e1 a)) ∧ (H (nx F e1 a)) ≤ 2147483647 := by rw [← hH (nx F e1 a)]; exact ir_43 hI (nx F e1 a)
          have h_81 := hU (nx F e1 a) (by first | exact q_a7eda21a5 h_14 ha | omega) (by first | exact q_6c5402073 h_2 h_22 hr_e1 | omega)
          have h_82 := hb_or (b := H) (e := e1) (r := (nx F e1 a))
          have h_83 := hb_bd (b := H) (e := e1) (r := (nx F e1 a)) (lo := -2147483648) (hi := 2147483647) h_80 (by decide)
          refine v_cv c_162_1 km_8_114 rfl rfl (Nat.le_of_ble_eq_true rfl) ⟨⟨rfl, rfl⟩, Nat.le_of_ble_eq_true rfl, rfl⟩ (Nat.le_of_ble_eq_true rfl) (Nat.le_of_ble_eq_true rfl) (f_154 (e1 := e1) (a9 := a) (B := H) (r8 := (nx F e1 a)) (r := (hb H e1 (nx F e1 a))) hI2 ((hid kn_79)) ((hr_a)) (fun j => (hFc 43 j qn_7235d2764).trans (hH j)) ((nx_tr hU (ha.1) ((rg_eq hg_e1 h_1).2)).trans (rfl)) rfl (fun c_84 hI_85 hF_86 h_87 => (bk_inl (q_pop c_162_4 rfl (q_aload_n c_162_5 rfl (v_gi (z := 4) (v := (nx F e1 a)) c_162_6 kf_8_108 rfl (Nat.le_of_ble_eq_true rfl) rfl rfl (h_87) (q_aload_n c_162_9 rfl ?_)))))))
          have kn_88 : Hid (c_84 41 3 = e1) := (hF_86 41 3 (fun h => absurd h.2 (ni rfl))).trans (hid kn_79)
          refine v_gi (z := 3) (v := e1) c_162_10 kf_8_111 rfl (Nat.le_of_ble_eq_true rfl) rfl rfl (hid kn_88) (v_ic_ge_f (t := 20) c_162_13 rfl ⟨by first | exact q_378c2316e h_14 ha | omega, by first | exact q_d17d18138 h_22 | omega, (Int.le_trans (rg_eq hg_e1 h_1).2 (by decide))⟩ (q_iconst c_162_16 (q_goto (t := 21) c_162_17 rfl (v_zret c_162_21 rfl (by decide) (bk_inl (v_if_eq_f (t := 103) c_206_33 rfl (by decide) (q_aload_n c_206_36 rfl ?_)))))))
          refine v_gi (z := 4) (v := (nx F e1 a)) c_206_37 kf_8_108 rfl (Nat.le_of_ble_eq_true rfl) rfl rfl (h_87) (q_istore_n c_206_40 (Nat.le_of_ble_eq_true rfl) (q_aload_n c_206_41 rfl (q_iconst c_206_42 (q_aload_n c_206_43 rfl ?_))))
          have kn_89 : Hid (c2 41 22 = si) := (hFc 41 22 qn_236aabfbd).trans (hr_si)
          have kn_90 : Hid (c_84 41 22 = si) := (hF_86 41 22 (fun h => absurd h.2 (ni rfl))).trans (hid kn_89)
          refine v_gi (z := 22) (v := si) c_206_44 kf_8_163 rfl (Nat.le_of_ble_eq_true rfl) rfl rfl (hid kn_90) (q_iconst c_206_47 (v_isub (v := si - 1) c_206_48 rfl ?_))
          have kn_91 : Hid (c_53 1 1 = e1) := (hF_55 1 1 (fun h => absurd h.2 (ni rfl))).trans (hid kn_21)
          have h_92 : c_53 1 4 = 0 := (hid kn_61)
          have h_93 : c_53 1 2 = (nx F e1 a) := (hz_56)
          have kn_94 : Hid (c_17 1 5 = (-1)) := (hF_19 1 5 (fun h => absurd h.2 (ni rfl))).trans (hc_2)
          have kn_95 : Hid (c_53 1 5 = (-1)) := (hF_55 1 5 (fun h => absurd h.2 (ni rfl))).trans (hid kn_94)
          have h_96 : c_53 1 5 = (-1) := (hid kn_95)
          have kn_97 : Hid (c_84 41 5 = (-1)) := (hF_86 41 5 (fun h => absurd h.2 (ni rfl))).trans (hc_1)
          have h_98 : c_84 41 5 = (-1) := (hid kn_97)
          have h_99 : c_84 41 4 = (nx F e1 a) := (h_87)
          have h_100 := ir_41_6 hI2
          have kn_101 : Hid (c_84 41 6 = c2 41 6) := hF_86 41 6 (fun h => absurd h.2 (ni rfl))
          have h_102 : c_84 41 6 = c2 41 6 := (hid kn_101)
          refine v_cv c_206_49 km_8_199 rfl rfl (Nat.le_of_ble_eq_true rfl) ⟨⟨rfl, rfl⟩, Nat.le_of_ble_eq_true rfl, rfl⟩ (Nat.le_of_ble_eq_true rfl) (Nat.le_of_ble_eq_true rfl) (L_8 (m := c_53) (a2 := si - 1) (yg := y_65) (e1 := e1) (a9 := (nx F e1 a)) (f0 := 0) (F := F) (H := H) hI_85 hI_54 hI_63 (show (-1) ≤ si - 1 ∧ si - 1 ≤ 9999 from ⟨by first | exact rgm_l (rg_eq hg_si h_5).1 (by decide) | omega, by first | exact rgm_h (rg_eq hg_si h_5).2 (by decide) | omega⟩) ⟨(Int.le_trans (by decide) hy_65.1), (Int.le_trans hy_65.2 (by decide))⟩ ((hid kn_91)) ((hid kn_88)) ((hz_56)) ((hid kn_61)) (fun j => ((hF_55 2 j (fun h => absurd h.1 (nn rfl))).trans ((hF_19 2 j (fun h => absurd h.1 (nn rfl))).trans (hFm 2 j (qn_32acee3e7 hA)))).trans (hF j)) (fun j => ((hF_86 43 j (fun h => absurd h.1 (nn rfl))).trans (hFc 43 j qn_7235d2764)).trans (hH j)) hU (rt_i1 ⟨by first | assumption | omega, by first | assumption | omega, by first | assumption | omega, by first | assumption | omega⟩) hG_67 (fun c_103 y_106 hI_104 hF_105 hy_106 hR_107 h_108 h_109 h_110 h_111 => (bk_inl ?_)))
          have hs_112 := h_108.symm
          subst hs_112
          have h_113 := ir_1_2 hI_63
          refine q_istore c_206_52 (Nat.le_of_ble_eq_true rfl) (q_aload_n c_206_54 rfl (v_cv c_206_55 km_8_131 rfl rfl (Nat.le_of_ble_eq_true rfl) ⟨⟨rfl, rfl⟩, Nat.le_of_ble_eq_true rfl, rfl⟩ (Nat.le_of_ble_eq_true rfl) (Nat.le_of_ble_eq_true rfl) (q_aload_n c_152_0 rfl ?_)))
          have h_114 := ir_41_5 hI_104
          have h_115 := ir_1_5 hI_63
          have h_116 := ir_41_4 hI_104
          have h_117 := ir_41_6 hI_104
          have h_118 := rt_or hR_107
          refine v_gi (z := 5) (v := c_103 41 5) c_152_1 kf_8_102 rfl (Nat.le_of_ble_eq_true rfl) rfl rfl rfl (q_iconst c_152_4 ?_)
          by_cases h_119 : c_103 41 5 ≠ (-1)
          · refine v_ic_ne_t (t := 12) c_152_5 rfl ⟨h_119, ⟨(Int.le_trans (by decide) h_114.1), (Int.le_trans h_114.2 (by decide))⟩, by decide, by decide⟩ (q_iconst c_152_12 (v_zret c_152_13 rfl (by decide) (bk_inl (v_if_eq_t (t := 73) c_206_58 rfl (by decide) (q_aload_n c_206_73 rfl (v_bip c_206_74 (by decide) ?_))))))
            have kn_120 : Hid (c_62 1 1 = e1) := (hF_64 1 1 qn_b782e6d88).trans (hid kn_91)
            have kn_121 : Hid (c_103 41 3 = e1) := (hF_105 41 3 qn_97fd72088).trans (hid kn_88)
            refine v_cv c_206_76 km_8_229 rfl rfl (Nat.le_of_ble_eq_true rfl) ⟨⟨rfl, rfl⟩, Nat.le_of_ble_eq_true rfl, rfl⟩ (Nat.le_of_ble_eq_true rfl) (Nat.le_of_ble_eq_true rfl) (L_11_9 (m := up c_62 (A + 5) v y_65) (e1 := e1) (a9 := c_62 1 2) (f0 := c_62 1 4) (F := F) (H := H) hI_104 hI_70 hI_72 (((up_c (pn hA rfl rfl)).trans (hid kn_120))) ((hid kn_121)) ((up_c (pn hA rfl rfl))) ((up_c (pn hA rfl rfl))) (fun j => ((up_c (pn hA rfl rfl)).trans ((hF_64 2 j qn_e2b123f84).trans ((hF_55 2 j (fun h => absurd h.1 (nn rfl))).trans ((hF_19 2 j (fun h => absurd h.1 (nn rfl))).trans (hFm 2 j (qn_32acee3e7 hA)))))).trans (hF j)) (fun j => ((hF_105 43 j qn_0f2179ecb).trans ((hF_86 43 j (fun h => absurd h.1 (nn rfl))).trans (hFc 43 j qn_7235d2764))).trans (hH j)) hU (rt_fr hR_107 (up_c (pn hA rfl rfl)) (up_c (pn hA rfl rfl)) (up_c (pn hA rfl rfl)) (rfl) (rfl) (rfl)) hG_74 (fun c_122 hI_123 hF_124 hR_126 h_127 h_128 => (bk_inl ?_)))
            have h_129 := ir_1_2 hI_72
            refine q_aload_n c_206_79 rfl (v_cv c_206_80 km_8_131 rfl rfl (Nat.le_of_ble_eq_true rfl) ⟨⟨rfl, rfl⟩, Nat.le_of_ble_eq_true rfl, rfl⟩ (Nat.le_of_ble_eq_true rfl) (Nat.le_of_ble_eq_true rfl) (q_aload_n c_152_0 rfl ?_))
            have h_130 := ir_41_5 hI_123
            have h_131 := ir_1_5 hI_72
            have h_132 := ir_41_4 hI_123
            have h_133 := ir_41_6 hI_123
            have h_134 := rt_ok hR_126 (by first | exact q_f6b658f58 h_75 h_76 | omega)
            have hro_hR_126 := rt_ok hR_126 (by first | exact q_f6b658f58 h_75 h_76 | omega)
            refine v_gi (z := 5) (v := (-1)) c_152_1 kf_8_102 rfl (Nat.le_of_ble_eq_true rfl) rfl rfl hro_hR_126.2.1 (q_iconst c_152_4 (v_ic_ne_f (t := 12) c_152_5 rfl (by decide) (q_iconst c_152_8 (q_goto (t := 13) c_152_9 rfl (v_zret c_152_13 rfl (by decide) (bk_inl (v_if_ne_t (t := 89) c_206_83 rfl (by decide) ?_)))))))
            refine q_aload_n c_206_89 rfl (v_gr (t := 61) c_206_90 kf_8_74 rfl (Nat.le_of_ble_eq_true rfl) rfl (q_iload_n c_206_93 rfl (q_iload c_206_94 rfl (v_is c_206_96 rfl (by decide) (by decide) ⟨hv.1, by first | exact q_dcc5894f5 h_68 hv | omega⟩ (v_iinc (v := v + 1) c_206_97 rfl (Nat.le_of_ble_eq_true rfl) rfl (q_goto (t := 22) c_206_100 rfl ?_))))))
            have hI_135 := iw_61 (j := v) (v := y_65) hI_123 ⟨hy_65.1, by first | exact q_88baa528f h_6 h_66 hr_si | omega⟩
            refine Wp_ls [(0, .ref 41), (1, vi a1), (2, vi (v + 1))] (lsub_cons rfl (lsub_cons rfl (lsub_cons rfl lsub_nil))) ?_
            have hr_136 : ∀ j : Int, 0 ≤ j → j < v + 1 → 0 ≤ c_71 (A + 5) j ∧ c_71 (A + 5) j ≤ 3 := by
              intro j hj1 hj2
              by_cases e9 : j = v
              · have q9 : c_71 (A + 5) j = y_65 := (hF_73 (A + 5) j (by omega)).trans (up_e e9)
                rw [q9]
                omega
              · have q9 : c_71 (A + 5) j = m2 (A + 5) j := (hF_73 (A + 5) j (by omega)).trans ((up_n e9).trans ((hF_64 (A + 5) j (by omega)).trans ((hF_55 (A + 5) j (by omega)).trans (hF_19 (A + 5) j (by omega)))))
                rw [q9]
                exact hx0 j hj1 (by omega)
            exact ih (up c_122 61 v y_65) c_71 (v + 1) (v + 1) (c_71 1 2) hI_135 (fun a j hm => (up_b (Decidable.or_iff_not_imp_left.mpr (fun h1 h2 => hm (Or.inr (Or.inr (Or.inr (Decidable.not_not.mp h1))))))).trans ((hF_124 a j (qv_18666c177 hm)).trans ((hF_105 a j (qv_18666c177 hm)).trans ((hF_86 a j (fun h => hm (Or.inl h))).trans (hFc a j hm))))) hI_72 (fun a j hm => (hF_73 a j (qv_e4befbf54 hm)).trans ((up_b (Decidable.or_iff_not_imp_left.mpr (fun h1 h2 => hm (Or.inr (Or.inr (Or.inr (Or.inr (Or.inr (Decidable.not_not.mp h1))))))))).trans ((hF_64 a j (qv_e4befbf54 hm)).trans ((hF_55 a j (fun h => hm (Or.inl h))).trans ((hF_19 a j (fun h => hm (Or.inl h))).trans (hFm a j hm)))))) ⟨by first | exact rgp_l hv.1 (by decide) | omega, by first | exact q_6dd620985 h_68 hv | omega⟩ ⟨by first | exact rgp_l hv.1 (by decide) | omega, by first | exact q_6dd620985 h_68 hv | omega⟩ h_129 (rfl) ((((up_c (nn rfl))).trans (hro_hR_126.2.2.1))) ((show _ = c_71 1 4 from rfl).trans (by first | assumption | exact Int.le_antisymm (by first | exact q_d1e538aa4 h_76 | omega) (by first | exact q_eb3a7ad7a h_75 | omega))) ((((up_c (nn rfl))).trans (hro_hR_126.2.1))) ((show _ = c_71 1 5 from rfl).trans (by first | assumption | exact Int.le_antisymm (by first | exact q_10f95419d h_134 | omega) (by first | exact q_3d8b3e7e9 h_131 | omega))) hr_136 (by first | exact q_e99da1485 | omega) hG_77 (by omega)
          · refine v_ic_ne_f (t := 12) c_152_5 rfl (Decidable.not_not.mp h_119) (q_iconst c_152_8 (q_goto (t := 13) c_152_9 rfl (v_zret c_152_13 rfl (by decide) (bk_inl (v_if_eq_f (t := 73) c_206_58 rfl (by decide) (q_iload_n c_206_61 rfl (v_bip c_206_62 (by decide) ?_)))))))
            refine v_ic_ne_t (t := 73) c_206_64 rfl ⟨by first | exact q_8a795ae00 h_68 hv | omega, ⟨(Int.le_trans (by decide) hv.1), (Int.le_trans hv.2 (by decide))⟩, by decide, by decide⟩ (q_aload_n c_206_73 rfl (v_bip c_206_74 (by decide) ?_))
            have kn_137 : Hid (c_62 1 1 = e1) := (hF_64 1 1 qn_b782e6d88).trans (hid kn_91)
            have kn_138 : Hid (c_103 41 3 = e1) := (hF_105 41 3 qn_97fd72088).trans (hid kn_88)
            refine v_cv c_206_76 km_8_229 rfl rfl (Nat.le_of_ble_eq_true rfl) ⟨⟨rfl, rfl⟩, Nat.le_of_ble_eq_true rfl, rfl⟩ (Nat.le_of_ble_eq_true rfl) (Nat.le_of_ble_eq_true rfl) (L_11_9 (m := up c_62 (A + 5) v y_65) (e1 := e1) (a9 := c_62 1 2) (f0 := c_62 1 4) (F := F) (H := H) hI_104 hI_70 hI_72 (((up_c (pn hA rfl rfl)).trans (hid kn_137))) ((hid kn_138)) ((up_c (pn hA rfl rfl))) ((up_c (pn hA rfl rfl))) (fun j => ((up_c (pn hA rfl rfl)).trans ((hF_64 2 j qn_e2b123f84).trans ((hF_55 2 j (fun h => absurd h.1 (nn rfl))).trans ((hF_19 2 j (fun h => absurd h.1 (nn rfl))).trans (hFm 2 j (qn_32acee3e7 hA)))))).trans (hF j)) (fun j => ((hF_105 43 j qn_0f2179ecb).trans ((hF_86 43 j (fun h => absurd h.1 (nn rfl))).trans (hFc 43 j qn_7235d2764))).trans (hH j)) hU (rt_fr hR_107 (up_c (pn hA rfl rfl)) (up_c (pn hA rfl rfl)) (up_c (pn hA rfl rfl)) (rfl) (rfl) (rfl)) hG_74 (fun c_139 hI_140 hF_141 hR_143 h_144 h_145 => (bk_inl ?_)))
            have h_146 := ir_1_2 hI_72
            refine q_aload_n c_206_79 rfl (v_cv c_206_80 km_8_131 rfl rfl (Nat.le_of_ble_eq_true rfl) ⟨⟨rfl, rfl⟩, Nat.le_of_ble_eq_true rfl, rfl⟩ (Nat.le_of_ble_eq_true rfl) (Nat.le_of_ble_eq_true rfl) (q_aload_n c_152_0 rfl ?_))
            have h_147 := ir_41_5 hI_140
            have h_148 := ir_1_5 hI_72
            have h_149 := ir_41_4 hI_140
            have h_150 := ir_41_6 hI_140
            have h_151 := rt_ok hR_143 (by first | exact q_f6b658f58 h_75 h_76 | omega)
            have hro_hR_143 := rt_ok hR_143 (by first | exact q_f6b658f58 h_75 h_76 | omega)
            refine v_gi (z := 5) (v := (-1)) c_152_1 kf_8_102 rfl (Nat.le_of_ble_eq_true rfl) rfl rfl hro_hR_143.2.1 (q_iconst c_152_4 (v_ic_ne_f (t := 12) c_152_5 rfl (by decide) (q_iconst c_152_8 (q_goto (t := 13) c_152_9 rfl (v_zret c_152_13 rfl (by decide) (bk_inl (v_if_ne_t (t := 89) c_206_83 rfl (by decide) ?_)))))))
            refine q_aload_n c_206_89 rfl (v_gr (t := 61) c_206_90 kf_8_74 rfl (Nat.le_of_ble_eq_true rfl) rfl (q_iload_n c_206_93 rfl (q_iload c_206_94 rfl (v_is c_206_96 rfl (by decide) (by decide) ⟨hv.1, by first | exact q_dcc5894f5 h_68 hv | omega⟩ (v_iinc (v := v + 1) c_206_97 rfl (Nat.le_of_ble_eq_true rfl) rfl (q_goto (t := 22) c_206_100 rfl ?_))))))
            have hI_152 := iw_61 (j := v) (v := y_65) hI_140 ⟨hy_65.1, by first | exact q_88baa528f h_6 h_66 hr_si | omega⟩
            refine Wp_ls [(0, .ref 41), (1, vi a1), (2, vi (v + 1))] (lsub_cons rfl (lsub_cons rfl (lsub_cons rfl lsub_nil))) ?_
            have hr_153 : ∀ j : Int, 0 ≤ j → j < v + 1 → 0 ≤ c_71 (A + 5) j ∧ c_71 (A + 5) j ≤ 3 := by
              intro j hj1 hj2
              by_cases e9 : j = v
              · have q9 : c_71 (A + 5) j = y_65 := (hF_73 (A + 5) j (by omega)).trans (up_e e9)
                rw [q9]
                omega
              · have q9 : c_71 (A + 5) j = m2 (A + 5) j := (hF_73 (A + 5) j (by omega)).trans ((up_n e9).trans ((hF_64 (A + 5) j (by omega)).trans ((hF_55 (A + 5) j (by omega)).trans (hF_19 (A + 5) j (by omega)))))
                rw [q9]
                exact hx0 j hj1 (by omega)
            exact ih (up c_139 61 v y_65) c_71 (v + 1) (v + 1) (c_71 1 2) hI_152 (fun a j hm => (up_b (Decidable.or_iff_not_imp_left.mpr (fun h1 h2 => hm (Or.inr (Or.inr (Or.inr (Decidable.not_not.mp h1))))))).trans ((hF_141 a j (qv_18666c177 hm)).trans ((hF_105 a j (qv_18666c177 hm)).trans ((hF_86 a j (fun h => hm (Or.inl h))).trans (hFc a j hm))))) hI_72 (fun a j hm => (hF_73 a j (qv_e4befbf54 hm)).trans ((up_b (Decidable.or_iff_not_imp_left.mpr (fun h1 h2 => hm (Or.inr (Or.inr (Or.inr (Or.inr (Or.inr (Decidable.not_not.mp h1))))))))).trans ((hF_64 a j (qv_e4befbf54 hm)).trans ((hF_55 a j (fun h => hm (Or.inl h))).trans ((hF_19 a j (fun h => hm (Or.inl h))).trans (hFm a j hm)))))) ⟨by first | exact rgp_l hv.1 (by decide) | omega, by first | exact q_6dd620985 h_68 hv | omega⟩ ⟨by first | exact rgp_l hv.1 (by decide) | omega, by first | exact q_6dd620985 h_68 hv | omega⟩ h_146 (rfl) ((((up_c (nn rfl))).trans (hro_hR_143.2.2.1))) ((show _ = c_71 1 4 from rfl).trans (by first | assumption | exact Int.le_antisymm (by first | exact q_d1e538aa4 h_76 | omega) (by first | exact q_eb3a7ad7a h_75 | omega))) ((((up_c (nn rfl))).trans (hro_hR_143.2.1))) ((show _ = c_71 1 5 from rfl).trans (by first | assumption | exact Int.le_antisymm (by first | exact q_10f95419d h_151 | omega) (by first | exact q_3d8b3e7e9 h_148 | omega))) hr_153 (by first | exact q_e99da1485 | omega) hG_77 (by omega)
        · skip
          refine q_iload_n c_35_4 rfl (v_bip c_35_5 (by decide) (v_ic_gt_f (t := 75) c_35_7 rfl ⟨by first | exact rgp_l hv.1 (by decide) | omega, by first | exact q_6dd620985 h_68 hv | omega, by decide⟩ (q_aload_n c_35_10 rfl (v_cv c_35_11 km_2_44 rfl rfl (Nat.le_of_ble_eq_true rfl) ⟨⟨rfl, rfl⟩, Nat.le_of_ble_eq_true rfl, rfl⟩ (Nat.le_of_ble_eq_true rfl) (Nat.le_of_ble_eq_true rfl) (q_aload_n c_15_0 rfl (v_cv c_15_1 km_5_45 rfl rfl (Nat.le_of_ble_eq_true rfl) ⟨⟨rfl, rfl⟩, Nat.le_of_ble_eq_true rfl, rfl⟩ (Nat.le_of_ble_eq_true rfl) (Nat.le_of_ble_eq_true rfl) (q_aload_n c_2_0 rfl ?_)))))))
          refine v_gi (z := 4) (v := c_71 1 4) c_2_1 kf_5_38 rfl (Nat.le_of_ble_eq_true rfl) rfl rfl rfl (v_if_ne_t (t := 11) c_2_4 rfl ⟨by first | exact q_106d90f3b h_75 h_76 | omega, ⟨(Int.le_trans (by decide) h_75.1), (Int.le_trans h_75.2 (by decide))⟩, by decide, by decide⟩ (q_iconst c_2_11 (v_zret c_2_12 rfl (by decide) (bk_inl (v_if_eq_t (t := 22) c_15_4 rfl (by decide) (q_iconst c_15_22 (v_zret c_15_23 rfl (by decide) ?_)))))))
          refine bk_inl (v_if_eq_t (t := 75) c_35_14 rfl (by decide) (q_aload_n c_35_75 rfl (v_cv c_35_76 km_2_68 rfl rfl (Nat.le_of_ble_eq_true rfl) ⟨⟨rfl, rfl⟩, Nat.le_of_ble_eq_true rfl, rfl⟩ (Nat.le_of_ble_eq_true rfl) (Nat.le_of_ble_eq_true rfl) (q_aload_n c_2_0 rfl (v_gi (z := 4) (v := c_71 1 4) c_2_1 kf_5_38 rfl (Nat.le_of_ble_eq_true rfl) rfl rfl rfl (v_if_ne_t (t := 11) c_2_4 rfl ⟨by first | exact q_106d90f3b h_75 h_76 | omega, ⟨(Int.le_trans (by decide) h_75.1), (Int.le_trans h_75.2 (by decide))⟩, by decide, by decide⟩ (q_iconst c_2_11 ?_)))))))
          refine v_zret c_2_12 rfl (by decide) (bk_inl (v_if_eq_t (t := 102) c_35_79 rfl (by decide) (q_vret rfl rfl ?_)))
          intro hE_154
          have hW : Wd P Q P P c_71 = Wd P Q P P m9 := (Prod.mk.inj (Prod.mk.inj hE_154).2).1
          have h_155 := ir_1_4 hJ9
          have h_156 : m9 1 4 = c_71 1 4 := wd_fv (z := 4) 4 rfl hW rfl rfl rfl rfl (by decide) rfl ⟨(Int.le_trans (by decide) h_75.1), (Int.le_trans h_75.2 (by decide))⟩ ⟨(Int.le_trans (by decide) h_155.1), (Int.le_trans h_155.2 (by decide))⟩
          have h_157 := ir_1_2 hI_72
          have h_158 := ir_1_2 hJ9
          have h_159 : m9 1 2 = c_71 1 2 := wd_fv (z := 2) 2 rfl hW rfl rfl rfl rfl (by decide) rfl ⟨(Int.le_trans (by decide) h_157.1), (Int.le_trans h_157.2 (by decide))⟩ ⟨(Int.le_trans (by decide) h_158.1), (Int.le_trans h_158.2 (by decide))⟩
          have h_160 := ir_1_5 hI_72
          have h_161 := ir_1_5 hJ9
          have h_162 : m9 1 5 = c_71 1 5 := wd_fv (z := 5) 5 rfl hW rfl rfl rfl rfl (by decide) rfl ⟨(Int.le_trans (by decide) h_160.1), (Int.le_trans h_160.2 (by decide))⟩ ⟨(Int.le_trans (by decide) h_161.1), (Int.le_trans h_161.2 (by decide))⟩
          have h_163 := ir_p0_4 hJ2 hA
          have kn_164 : Hid (c_17 A 4 = m2 A 4) := hF_19 A 4 (fun h => absurd h.1 (np0 hA rfl))
          have kn_165 : Hid (c_53 A 4 = m2 A 4) := (hF_55 A 4 (fun h => absurd h.1 (np0 hA rfl))).trans (hid kn_164)
          have kn_166 : Hid (c_62 A 4 = m2 A 4) := (hF_64 A 4 (qn_014d425e1 hA)).trans (hid kn_165)
          have kn_167 : Hid (c_71 A 4 = m2 A 4) := (hF_73 A 4 (qn_014d425e1 hA)).trans ((up_c (p0p rfl)).trans (hid kn_166))
          have h_168 := ir_p0_4 hJ9 hA
          have h_169 : m9 A 4 = m2 A 4 := wd_fv (z := 4) 4 rfl hW (ck_p0 hA) (ck_p0 hA) rfl rfl (a68z hA) (hid kn_167) ⟨by first | exact q_ad61fcb20 h_163 | omega, by first | exact q_68855c780 h_163 | omega⟩ ⟨(Int.le_trans (by decide) h_168.1), (Int.le_trans h_168.2 (by decide))⟩
          refine q_aload_n c_206_22 rfl (v_cv c_206_23 km_8_131 rfl rfl (Nat.le_of_ble_eq_true rfl) ⟨⟨rfl, rfl⟩, Nat.le_of_ble_eq_true rfl, rfl⟩ (Nat.le_of_ble_eq_true rfl) (Nat.le_of_ble_eq_true rfl) (q_aload_n c_152_0 rfl (v_gi (z := 5) (v := (-1)) c_152_1 kf_8_102 rfl (Nat.le_of_ble_eq_true rfl) rfl rfl (hc_1) (q_iconst c_152_4 (v_ic_ne_f (t := 12) c_152_5 rfl (by decide) (q_iconst c_152_8 (q_goto (t := 13) c_152_9 rfl ?_)))))))
          refine v_zret c_152_13 rfl (by decide) (bk_inl (v_if_eq_f (t := 103) c_206_26 rfl (by decide) (q_aload_n c_206_29 rfl (v_cv c_206_30 km_8_211 rfl rfl (Nat.le_of_ble_eq_true rfl) ⟨⟨rfl, rfl⟩, Nat.le_of_ble_eq_true rfl, rfl⟩ (Nat.le_of_ble_eq_true rfl) (Nat.le_of_ble_eq_true rfl) (q_aload_n c_162_0 rfl ?_)))))
          have kn_170 : Hid (c2 41 3 = e1) := (hFc 41 3 qn_974b23dce).trans (hr_e1)
          have h_171 : -2147483648 ≤ (H (nx F e1 a)) ∧ (H (nx F e1 a)) ≤ 2147483647 := by rw [← hH (nx F e1 a)]; exact ir_43 hI (nx F e1 a)
          have h_172 := hU (nx F e1 a) (by first | exact q_a7eda21a5 h_14 ha | omega) (by first | exact q_6c5402073 h_2 h_22 hr_e1 | omega)
          have h_173 := hb_or (b := H) (e := e1) (r := (nx F e1 a))
          have h_174 := hb_bd (b := H) (e := e1) (r := (nx F e1 a)) (lo := -2147483648) (hi := 2147483647) h_171 (by decide)
          refine v_cv c_162_1 km_8_114 rfl rfl (Nat.le_of_ble_eq_true rfl) ⟨⟨rfl, rfl⟩, Nat.le_of_ble_eq_true rfl, rfl⟩ (Nat.le_of_ble_eq_true rfl) (Nat.le_of_ble_eq_true rfl) (f_154 (e1 := e1) (a9 := a) (B := H) (r8 := (nx F e1 a)) (r := (hb H e1 (nx F e1 a))) hI2 ((hid kn_170)) ((hr_a)) (fun j => (hFc 43 j qn_7235d2764).trans (hH j)) ((nx_tr hU (ha.1) ((rg_eq hg_e1 h_1).2)).trans (rfl)) rfl (fun c_175 hI_176 hF_177 h_178 => (bk_inl (q_pop c_162_4 rfl (q_aload_n c_162_5 rfl (v_gi (z := 4) (v := (nx F e1 a)) c_162_6 kf_8_108 rfl (Nat.le_of_ble_eq_true rfl) rfl rfl (h_178) (q_aload_n c_162_9 rfl ?_)))))))
          have kn_179 : Hid (c_175 41 3 = e1) := (hF_177 41 3 (fun h => absurd h.2 (ni rfl))).trans (hid kn_170)
          refine v_gi (z := 3) (v := e1) c_162_10 kf_8_111 rfl (Nat.le_of_ble_eq_true rfl) rfl rfl (hid kn_179) (v_ic_ge_f (t := 20) c_162_13 rfl ⟨by first | exact q_378c2316e h_14 ha | omega, by first | exact q_d17d18138 h_22 | omega, (Int.le_trans (rg_eq hg_e1 h_1).2 (by decide))⟩ (q_iconst c_162_16 (q_goto (t := 21) c_162_17 rfl (v_zret c_162_21 rfl (by decide) (bk_inl (v_if_eq_f (t := 103) c_206_33 rfl (by decide) (q_aload_n c_206_36 rfl ?_)))))))
          refine v_gi (z := 4) (v := (nx F e1 a)) c_206_37 kf_8_108 rfl (Nat.le_of_ble_eq_true rfl) rfl rfl (h_178) (q_istore_n c_206_40 (Nat.le_of_ble_eq_true rfl) (q_aload_n c_206_41 rfl (q_iconst c_206_42 (q_aload_n c_206_43 rfl ?_))))
          have kn_180 : Hid (c2 41 22 = si) := (hFc 41 22 qn_236aabfbd).trans (hr_si)
          have kn_181 : Hid (c_175 41 22 = si) := (hF_177 41 22 (fun h => absurd h.2 (ni rfl))).trans (hid kn_180)
          refine v_gi (z := 22) (v := si) c_206_44 kf_8_163 rfl (Nat.le_of_ble_eq_true rfl) rfl rfl (hid kn_181) (q_iconst c_206_47 (v_isub (v := si - 1) c_206_48 rfl ?_))
          have kn_182 : Hid (c_53 1 1 = e1) := (hF_55 1 1 (fun h => absurd h.2 (ni rfl))).trans (hid kn_21)
          have h_183 : c_53 1 4 = 0 := (hid kn_61)
          have h_184 : c_53 1 2 = (nx F e1 a) := (hz_56)
          have kn_185 : Hid (c_17 1 5 = (-1)) := (hF_19 1 5 (fun h => absurd h.2 (ni rfl))).trans (hc_2)
          have kn_186 : Hid (c_53 1 5 = (-1)) := (hF_55 1 5 (fun h => absurd h.2 (ni rfl))).trans (hid kn_185)
          have h_187 : c_53 1 5 = (-1) := (hid kn_186)
          have kn_188 : Hid (c_175 41 5 = (-1)) := (hF_177 41 5 (fun h => absurd h.2 (ni rfl))).trans (hc_1)
          have h_189 : c_175 41 5 = (-1) := (hid kn_188)
          have h_190 : c_175 41 4 = (nx F e1 a) := (h_178)
          have h_191 := ir_41_6 hI2
          have kn_192 : Hid (c_175 41 6 = c2 41 6) := hF_177 41 6 (fun h => absurd h.2 (ni rfl))
          have h_193 : c_175 41 6 = c2 41 6 := (hid kn_192)
          refine v_cv c_206_49 km_8_199 rfl rfl (Nat.le_of_ble_eq_true rfl) ⟨⟨rfl, rfl⟩, Nat.le_of_ble_eq_true rfl, rfl⟩ (Nat.le_of_ble_eq_true rfl) (Nat.le_of_ble_eq_true rfl) (L_8 (m := c_53) (a2 := si - 1) (yg := y_65) (e1 := e1) (a9 := (nx F e1 a)) (f0 := 0) (F := F) (H := H) hI_176 hI_54 hI_63 (show (-1) ≤ si - 1 ∧ si - 1 ≤ 9999 from ⟨by first | exact rgm_l (rg_eq hg_si h_5).1 (by decide) | omega, by first | exact rgm_h (rg_eq hg_si h_5).2 (by decide) | omega⟩) ⟨(Int.le_trans (by decide) hy_65.1), (Int.le_trans hy_65.2 (by decide))⟩ ((hid kn_182)) ((hid kn_179)) ((hz_56)) ((hid kn_61)) (fun j => ((hF_55 2 j (fun h => absurd h.1 (nn rfl))).trans ((hF_19 2 j (fun h => absurd h.1 (nn rfl))).trans (hFm 2 j (qn_32acee3e7 hA)))).trans (hF j)) (fun j => ((hF_177 43 j (fun h => absurd h.1 (nn rfl))).trans (hFc 43 j qn_7235d2764)).trans (hH j)) hU (rt_i1 ⟨by first | assumption | omega, by first | assumption | omega, by first | assumption | omega, by first | assumption | omega⟩) hG_67 (fun c_194 y_197 hI_195 hF_196 hy_197 hR_198 h_199 h_200 h_201 h_202 => (bk_inl ?_)))
          have hs_203 := h_199.symm
          subst hs_203
          have h_204 := ir_1_2 hI_63
          refine q_istore c_206_52 (Nat.le_of_ble_eq_true rfl) (q_aload_n c_206_54 rfl (v_cv c_206_55 km_8_131 rfl rfl (Nat.le_of_ble_eq_true rfl) ⟨⟨rfl, rfl⟩, Nat.le_of_ble_eq_true rfl, rfl⟩ (Nat.le_of_ble_eq_true rfl) (Nat.le_of_ble_eq_true rfl) (q_aload_n c_152_0 rfl ?_)))
          have h_205 := ir_41_5 hI_195
          have h_206 := ir_1_5 hI_63
          have h_207 := ir_41_4 hI_195
          have h_208 := ir_41_6 hI_195
          have h_209 := rt_or hR_198
          refine v_gi (z := 5) (v := c_194 41 5) c_152_1 kf_8_102 rfl (Nat.le_of_ble_eq_true rfl) rfl rfl rfl (q_iconst c_152_4 ?_)
          by_cases h_210 : c_194 41 5 ≠ (-1)
          · refine v_ic_ne_t (t := 12) c_152_5 rfl ⟨h_210, ⟨(Int.le_trans (by decide) h_205.1), (Int.le_trans h_205.2 (by decide))⟩, by decide, by decide⟩ (q_iconst c_152_12 (v_zret c_152_13 rfl (by decide) (bk_inl (v_if_eq_t (t := 73) c_206_58 rfl (by decide) (q_aload_n c_206_73 rfl (v_bip c_206_74 (by decide) ?_))))))
            have kn_211 : Hid (c_62 1 1 = e1) := (hF_64 1 1 qn_b782e6d88).trans (hid kn_182)
            have kn_212 : Hid (c_194 41 3 = e1) := (hF_196 41 3 qn_97fd72088).trans (hid kn_179)
            refine v_cv c_206_76 km_8_229 rfl rfl (Nat.le_of_ble_eq_true rfl) ⟨⟨rfl, rfl⟩, Nat.le_of_ble_eq_true rfl, rfl⟩ (Nat.le_of_ble_eq_true rfl) (Nat.le_of_ble_eq_true rfl) (L_11_9 (m := up c_62 (A + 5) v y_65) (e1 := e1) (a9 := c_62 1 2) (f0 := c_62 1 4) (F := F) (H := H) hI_195 hI_70 hI_72 (((up_c (pn hA rfl rfl)).trans (hid kn_211))) ((hid kn_212)) ((up_c (pn hA rfl rfl))) ((up_c (pn hA rfl rfl))) (fun j => ((up_c (pn hA rfl rfl)).trans ((hF_64 2 j qn_e2b123f84).trans ((hF_55 2 j (fun h => absurd h.1 (nn rfl))).trans ((hF_19 2 j (fun h => absurd h.1 (nn rfl))).trans (hFm 2 j (qn_32acee3e7 hA)))))).trans (hF j)) (fun j => ((hF_196 43 j qn_0f2179ecb).trans ((hF_177 43 j (fun h => absurd h.1 (nn rfl))).trans (hFc 43 j qn_7235d2764))).trans (hH j)) hU (rt_fr hR_198 (up_c (pn hA rfl rfl)) (up_c (pn hA rfl rfl)) (up_c (pn hA rfl rfl)) (rfl) (rfl) (rfl)) hG_74 (fun c_213 hI_214 hF_215 hR_217 h_218 h_219 => (bk_inl (q_aload_n c_206_79 rfl (v_cv c_206_80 km_8_131 rfl rfl (Nat.le_of_ble_eq_true rfl) ⟨⟨rfl, rfl⟩, Nat.le_of_ble_eq_true rfl, rfl⟩ (Nat.le_of_ble_eq_true rfl) (Nat.le_of_ble_eq_true rfl) (q_aload_n c_152_0 rfl ?_))))))
            have h_220 := ir_41_5 hI_214
            have h_221 := ir_41_4 hI_214
            have h_222 := ir_41_6 hI_214
            have h_223 := rt_bad hR_217 (by first | exact q_106d90f3b h_75 h_76 | omega)
            have hrb_hR_217 := rt_bad hR_217 (by first | exact q_f7b7d720f h_223 | omega)
            refine v_gi (z := 5) (v := c_71 1 5) c_152_1 kf_8_102 rfl (Nat.le_of_ble_eq_true rfl) rfl rfl hrb_hR_217.2.1 (q_iconst c_152_4 (v_ic_ne_t (t := 12) c_152_5 rfl ⟨by first | exact q_0f78863d3 h_223 | omega, ⟨(Int.le_trans (by decide) h_160.1), (Int.le_trans h_160.2 (by decide))⟩, by decide, by decide⟩ (q_iconst c_152_12 (v_zret c_152_13 rfl (by decide) (bk_inl (v_if_ne_f (t := 89) c_206_83 rfl (by decide) (q_goto (t := 103) c_206_86 rfl ?_)))))))
            refine Wp_ls [(0, .ref 41), (1, vi a1), (2, vi v)] (lsub_cons rfl (lsub_cons rfl (lsub_cons rfl lsub_nil))) ?_
            have h_224 : c_213 41 5 = c_71 1 5 := hrb_hR_217.2.1
            have h_225 : c_213 41 6 = c_71 1 4 := hrb_hR_217.2.2.2
            exact K c_213 v hI_214 (fun a j hm => (hF_215 a j (qv_18666c177 hm)).trans ((hF_196 a j (qv_18666c177 hm)).trans ((hF_177 a j (fun h => hm (Or.inl h))).trans (hFc a j hm)))) ⟨by omega, by omega⟩ (rt_i2 ⟨⟨by first | exact q_c4ab36c8d h_156 h_223 | omega, by first | exact q_c99d6ea93 h_155 | omega⟩, by first | exact q_88dc5fb99 h_162 | omega, by first | exact q_cb71117a2 h_162 h_223 | omega, by first | exact q_88dc5fb99 h_156 | omega⟩) (Or.inr (Or.inl (by first | exact q_374cd1df9 h_156 h_223 | omega)))
          · refine v_ic_ne_f (t := 12) c_152_5 rfl (Decidable.not_not.mp h_210) (q_iconst c_152_8 (q_goto (t := 13) c_152_9 rfl (v_zret c_152_13 rfl (by decide) (bk_inl (v_if_eq_f (t := 73) c_206_58 rfl (by decide) (q_iload_n c_206_61 rfl (v_bip c_206_62 (by decide) ?_)))))))
            refine v_ic_ne_t (t := 73) c_206_64 rfl ⟨by first | exact q_8a795ae00 h_68 hv | omega, ⟨(Int.le_trans (by decide) hv.1), (Int.le_trans hv.2 (by decide))⟩, by decide, by decide⟩ (q_aload_n c_206_73 rfl (v_bip c_206_74 (by decide) ?_))
            have kn_226 : Hid (c_62 1 1 = e1) := (hF_64 1 1 qn_b782e6d88).trans (hid kn_182)
            have kn_227 : Hid (c_194 41 3 = e1) := (hF_196 41 3 qn_97fd72088).trans (hid kn_179)
            refine v_cv c_206_76 km_8_229 rfl rfl (Nat.le_of_ble_eq_true rfl) ⟨⟨rfl, rfl⟩, Nat.le_of_ble_eq_true rfl, rfl⟩ (Nat.le_of_ble_eq_true rfl) (Nat.le_of_ble_eq_true rfl) (L_11_9 (m := up c_62 (A + 5) v y_65) (e1 := e1) (a9 := c_62 1 2) (f0 := c_62 1 4) (F := F) (H := H) hI_195 hI_70 hI_72 (((up_c (pn hA rfl rfl)).trans (hid kn_226))) ((hid kn_227)) ((up_c (pn hA rfl rfl))) ((up_c (pn hA rfl rfl))) (fun j => ((up_c (pn hA rfl rfl)).trans ((hF_64 2 j qn_e2b123f84).trans ((hF_55 2 j (fun h => absurd h.1 (nn rfl))).trans ((hF_19 2 j (fun h => absurd h.1 (nn rfl))).trans (hFm 2 j (qn_32acee3e7 hA)))))).trans (hF j)) (fun j => ((hF_196 43 j qn_0f2179ecb).trans ((hF_177 43 j (fun h => absurd h.1 (nn rfl))).trans (hFc 43 j qn_7235d2764))).trans (hH j)) hU (rt_fr hR_198 (up_c (pn hA rfl rfl)) (up_c (pn hA rfl rfl)) (up_c (pn hA rfl rfl)) (rfl) (rfl) (rfl)) hG_74 (fun c_228 hI_229 hF_230 hR_232 h_233 h_234 => (bk_inl (q_aload_n c_206_79 rfl (v_cv c_206_80 km_8_131 rfl rfl (Nat.le_of_ble_eq_true rfl) ⟨⟨rfl, rfl⟩, Nat.le_of_ble_eq_true rfl, rfl⟩ (Nat.le_of_ble_eq_true rfl) (Nat.le_of_ble_eq_true rfl) (q_aload_n c_152_0 rfl ?_))))))
            have h_235 := ir_41_5 hI_229
            have h_236 := ir_41_4 hI_229
            have h_237 := ir_41_6 hI_229
            have h_238 := rt_bad hR_232 (by first | exact q_106d90f3b h_75 h_76 | omega)
            have hrb_hR_232 := rt_bad hR_232 (by first | exact q_f7b7d720f h_238 | omega)
            refine v_gi (z := 5) (v := c_71 1 5) c_152_1 kf_8_102 rfl (Nat.le_of_ble_eq_true rfl) rfl rfl hrb_hR_232.2.1 (q_iconst c_152_4 (v_ic_ne_t (t := 12) c_152_5 rfl ⟨by first | exact q_0f78863d3 h_238 | omega, ⟨(Int.le_trans (by decide) h_160.1), (Int.le_trans h_160.2 (by decide))⟩, by decide, by decide⟩ (q_iconst c_152_12 (v_zret c_152_13 rfl (by decide) (bk_inl (v_if_ne_f (t := 89) c_206_83 rfl (by decide) (q_goto (t := 103) c_206_86 rfl ?_)))))))
            refine Wp_ls [(0, .ref 41), (1, vi a1), (2, vi v)] (lsub_cons rfl (lsub_cons rfl (lsub_cons rfl lsub_nil))) ?_
            have h_239 : c_228 41 5 = c_71 1 5 := hrb_hR_232.2.1
            have h_240 : c_228 41 6 = c_71 1 4 := hrb_hR_232.2.2.2
            exact K c_228 v hI_229 (fun a j hm => (hF_230 a j (qv_18666c177 hm)).trans ((hF_196 a j (qv_18666c177 hm)).trans ((hF_177 a j (fun h => hm (Or.inl h))).trans (hFc a j hm)))) ⟨by omega, by omega⟩ (rt_i2 ⟨⟨by first | exact q_c4ab36c8d h_156 h_238 | omega, by first | exact q_c99d6ea93 h_155 | omega⟩, by first | exact q_88dc5fb99 h_162 | omega, by first | exact q_cb71117a2 h_162 h_238 | omega, by first | exact q_88dc5fb99 h_156 | omega⟩) (Or.inr (Or.inl (by first | exact q_374cd1df9 h_156 h_238 | omega)))
      · refine v_ic_ne_f (t := 51) c_35_38 rfl (Decidable.not_not.mp h_68) (q_aload_n c_35_41 rfl (q_iconst c_35_42 (q_iload c_35_43 rfl (v_cv c_35_45 km_2_64 rfl rfl (Nat.le_of_ble_eq_true rfl) ⟨⟨rfl, rfl⟩, Nat.le_of_ble_eq_true rfl, rfl⟩ (Nat.le_of_ble_eq_true rfl) (Nat.le_of_ble_eq_true rfl) (q_aload_n c_7_0 rfl ?_)))))
        have h_241 := ir_1_4 hI_63
        refine v_gi (z := 4) (v := c_62 1 4) c_7_1 kf_5_38 rfl (Nat.le_of_ble_eq_true rfl) rfl rfl rfl ?_
        by_cases h_242 : c_62 1 4 ≠ 0
        · refine v_if_ne_t (t := 17) c_7_4 rfl ⟨h_242, ⟨(Int.le_trans (by decide) h_241.1), (Int.le_trans h_241.2 (by decide))⟩, by decide, by decide⟩ (q_vret rfl rfl (bk_inl (q_goto (t := 63) c_35_48 rfl (q_aload_n c_35_63 rfl (q_ldc_s c_35_64 rfl rfl (by decide) (v_cv c_35_66 km_2_77 rfl rfl (Nat.le_of_ble_eq_true rfl) ⟨⟨rfl, rfl⟩, Nat.le_of_ble_eq_true rfl, rfl⟩ (Nat.le_of_ble_eq_true rfl) (Nat.le_of_ble_eq_true rfl) (q_aload_n c_11_0 rfl ?_)))))))
          refine v_cv c_11_1 km_5_45 rfl rfl (Nat.le_of_ble_eq_true rfl) ⟨⟨rfl, rfl⟩, Nat.le_of_ble_eq_true rfl, rfl⟩ (Nat.le_of_ble_eq_true rfl) (Nat.le_of_ble_eq_true rfl) (q_aload_n c_2_0 rfl (v_gi (z := 4) (v := c_62 1 4) c_2_1 kf_5_38 rfl (Nat.le_of_ble_eq_true rfl) rfl rfl rfl (v_if_ne_t (t := 11) c_2_4 rfl ⟨by first | exact q_646bc4652 h_241 h_242 | omega, ⟨(Int.le_trans (by decide) h_241.1), (Int.le_trans h_241.2 (by decide))⟩, by decide, by decide⟩ (q_iconst c_2_11 (v_zret c_2_12 rfl (by decide) (bk_inl (v_if_eq_t (t := 25) c_11_4 rfl (by decide) ?_)))))))
          refine q_vret rfl rfl (bk_inl (v_iinc (v := v + 1) c_35_69 rfl (Nat.le_of_ble_eq_true rfl) rfl (q_goto (t := 4) c_35_72 rfl (q_iload_n c_35_4 rfl (v_bip c_35_5 (by decide) (v_ic_gt_t (t := 75) c_35_7 rfl ⟨by decide, by first | exact q_9c3d50365 h_68 | omega, by first | exact rgp_h hv.2 (by decide) | omega⟩ (q_aload_n c_35_75 rfl ?_)))))))
          refine v_cv c_35_76 km_2_68 rfl rfl (Nat.le_of_ble_eq_true rfl) ⟨⟨rfl, rfl⟩, Nat.le_of_ble_eq_true rfl, rfl⟩ (Nat.le_of_ble_eq_true rfl) (Nat.le_of_ble_eq_true rfl) (q_aload_n c_2_0 rfl (v_gi (z := 4) (v := c_62 1 4) c_2_1 kf_5_38 rfl (Nat.le_of_ble_eq_true rfl) rfl rfl rfl (v_if_ne_t (t := 11) c_2_4 rfl ⟨by first | exact q_646bc4652 h_241 h_242 | omega, ⟨(Int.le_trans (by decide) h_241.1), (Int.le_trans h_241.2 (by decide))⟩, by decide, by decide⟩ (q_iconst c_2_11 (v_zret c_2_12 rfl (by decide) (bk_inl (v_if_eq_t (t := 102) c_35_79 rfl (by decide) ?_)))))))
          refine q_vret rfl rfl ?_
          intro hE_243
          have hW : Wd P Q P P c_62 = Wd P Q P P m9 := (Prod.mk.inj (Prod.mk.inj hE_243).2).1
          have h_244 := ir_1_4 hJ9
          have h_245 : m9 1 4 = c_62 1 4 := wd_fv (z := 4) 4 rfl hW rfl rfl rfl rfl (by decide) rfl ⟨(Int.le_trans (by decide) h_241.1), (Int.le_trans h_241.2 (by decide))⟩ ⟨(Int.le_trans (by decide) h_244.1), (Int.le_trans h_244.2 (by decide))⟩
          have h_246 := ir_1_2 hI_63
          have h_247 := ir_1_2 hJ9
          have h_248 : m9 1 2 = c_62 1 2 := wd_fv (z := 2) 2 rfl hW rfl rfl rfl rfl (by decide) rfl ⟨(Int.le_trans (by decide) h_246.1), (Int.le_trans h_246.2 (by decide))⟩ ⟨(Int.le_trans (by decide) h_247.1), (Int.le_trans h_247.2 (by decide))⟩
          have h_249 := ir_1_5 hI_63
          have h_250 := ir_1_5 hJ9
          have h_251 : m9 1 5 = c_62 1 5 := wd_fv (z := 5) 5 rfl hW rfl rfl rfl rfl (by decide) rfl ⟨(Int.le_trans (by decide) h_249.1), (Int.le_trans h_249.2 (by decide))⟩ ⟨(Int.le_trans (by decide) h_250.1), (Int.le_trans h_250.2 (by decide))⟩
          have h_252 := ir_p0_4 hJ2 hA
          have kn_253 : Hid (c_17 A 4 = m2 A 4) := hF_19 A 4 (fun h => absurd h.1 (np0 hA rfl))
          have kn_254 : Hid (c_53 A 4 = m2 A 4) := (hF_55 A 4 (fun h => absurd h.1 (np0 hA rfl))).trans (hid kn_253)
          have kn_255 : Hid (c_62 A 4 = m2 A 4) := (hF_64 A 4 (qn_014d425e1 hA)).trans (hid kn_254)
          have h_256 := ir_p0_4 hJ9 hA
          have h_257 : m9 A 4 = m2 A 4 := wd_fv (z := 4) 4 rfl hW (ck_p0 hA) (ck_p0 hA) rfl rfl (a68z hA) (hid kn_255) ⟨by first | exact q_ad61fcb20 h_252 | omega, by first | exact q_68855c780 h_252 | omega⟩ ⟨(Int.le_trans (by decide) h_256.1), (Int.le_trans h_256.2 (by decide))⟩
          refine q_aload_n c_206_22 rfl (v_cv c_206_23 km_8_131 rfl rfl (Nat.le_of_ble_eq_true rfl) ⟨⟨rfl, rfl⟩, Nat.le_of_ble_eq_true rfl, rfl⟩ (Nat.le_of_ble_eq_true rfl) (Nat.le_of_ble_eq_true rfl) (q_aload_n c_152_0 rfl (v_gi (z := 5) (v := (-1)) c_152_1 kf_8_102 rfl (Nat.le_of_ble_eq_true rfl) rfl rfl (hc_1) (q_iconst c_152_4 (v_ic_ne_f (t := 12) c_152_5 rfl (by decide) (q_iconst c_152_8 (q_goto (t := 13) c_152_9 rfl ?_)))))))
          refine v_zret c_152_13 rfl (by decide) (bk_inl (v_if_eq_f (t := 103) c_206_26 rfl (by decide) (q_aload_n c_206_29 rfl (v_cv c_206_30 km_8_211 rfl rfl (Nat.le_of_ble_eq_true rfl) ⟨⟨rfl, rfl⟩, Nat.le_of_ble_eq_true rfl, rfl⟩ (Nat.le_of_ble_eq_true rfl) (Nat.le_of_ble_eq_true rfl) (q_aload_n c_162_0 rfl ?_)))))
          have kn_258 : Hid (c2 41 3 = e1) := (hFc 41 3 qn_974b23dce).trans (hr_e1)
          have h_259 : -2147483648 ≤ (H (nx F e1 a)) ∧ (H (nx F e1 a)) ≤ 2147483647 := by rw [← hH (nx F e1 a)]; exact ir_43 hI (nx F e1 a)
          have h_260 := hU (nx F e1 a) (by first | exact q_a7eda21a5 h_14 ha | omega) (by first | exact q_6c5402073 h_2 h_22 hr_e1 | omega)
          have h_261 := hb_or (b := H) (e := e1) (r := (nx F e1 a))
          have h_262 := hb_bd (b := H) (e := e1) (r := (nx F e1 a)) (lo := -2147483648) (hi := 2147483647) h_259 (by decide)
          refine v_cv c_162_1 km_8_114 rfl rfl (Nat.le_of_ble_eq_true rfl) ⟨⟨rfl, rfl⟩, Nat.le_of_ble_eq_true rfl, rfl⟩ (Nat.le_of_ble_eq_true rfl) (Nat.le_of_ble_eq_true rfl) (f_154 (e1 := e1) (a9 := a) (B := H) (r8 := (nx F e1 a)) (r := (hb H e1 (nx F e1 a))) hI2 ((hid kn_258)) ((hr_a)) (fun j => (hFc 43 j qn_7235d2764).trans (hH j)) ((nx_tr hU (ha.1) ((rg_eq hg_e1 h_1).2)).trans (rfl)) rfl (fun c_263 hI_264 hF_265 h_266 => (bk_inl (q_pop c_162_4 rfl (q_aload_n c_162_5 rfl (v_gi (z := 4) (v := (nx F e1 a)) c_162_6 kf_8_108 rfl (Nat.le_of_ble_eq_true rfl) rfl rfl (h_266) (q_aload_n c_162_9 rfl ?_)))))))
          have kn_267 : Hid (c_263 41 3 = e1) := (hF_265 41 3 (fun h => absurd h.2 (ni rfl))).trans (hid kn_258)
          refine v_gi (z := 3) (v := e1) c_162_10 kf_8_111 rfl (Nat.le_of_ble_eq_true rfl) rfl rfl (hid kn_267) (v_ic_ge_f (t := 20) c_162_13 rfl ⟨by first | exact q_378c2316e h_14 ha | omega, by first | exact q_d17d18138 h_22 | omega, (Int.le_trans (rg_eq hg_e1 h_1).2 (by decide))⟩ (q_iconst c_162_16 (q_goto (t := 21) c_162_17 rfl (v_zret c_162_21 rfl (by decide) (bk_inl (v_if_eq_f (t := 103) c_206_33 rfl (by decide) (q_aload_n c_206_36 rfl ?_)))))))
          refine v_gi (z := 4) (v := (nx F e1 a)) c_206_37 kf_8_108 rfl (Nat.le_of_ble_eq_true rfl) rfl rfl (h_266) (q_istore_n c_206_40 (Nat.le_of_ble_eq_true rfl) (q_aload_n c_206_41 rfl (q_iconst c_206_42 (q_aload_n c_206_43 rfl ?_))))
          have kn_268 : Hid (c2 41 22 = si) := (hFc 41 22 qn_236aabfbd).trans (hr_si)
          have kn_269 : Hid (c_263 41 22 = si) := (hF_265 41 22 (fun h => absurd h.2 (ni rfl))).trans (hid kn_268)
          refine v_gi (z := 22) (v := si) c_206_44 kf_8_163 rfl (Nat.le_of_ble_eq_true rfl) rfl rfl (hid kn_269) (q_iconst c_206_47 (v_isub (v := si - 1) c_206_48 rfl ?_))
          have kn_270 : Hid (c_53 1 1 = e1) := (hF_55 1 1 (fun h => absurd h.2 (ni rfl))).trans (hid kn_21)
          have h_271 : c_53 1 4 = 0 := (hid kn_61)
          have h_272 : c_53 1 2 = (nx F e1 a) := (hz_56)
          have kn_273 : Hid (c_17 1 5 = (-1)) := (hF_19 1 5 (fun h => absurd h.2 (ni rfl))).trans (hc_2)
          have kn_274 : Hid (c_53 1 5 = (-1)) := (hF_55 1 5 (fun h => absurd h.2 (ni rfl))).trans (hid kn_273)
          have h_275 : c_53 1 5 = (-1) := (hid kn_274)
          have kn_276 : Hid (c_263 41 5 = (-1)) := (hF_265 41 5 (fun h => absurd h.2 (ni rfl))).trans (hc_1)
          have h_277 : c_263 41 5 = (-1) := (hid kn_276)
          have h_278 : c_263 41 4 = (nx F e1 a) := (h_266)
          have h_279 := ir_41_6 hI2
          have kn_280 : Hid (c_263 41 6 = c2 41 6) := hF_265 41 6 (fun h => absurd h.2 (ni rfl))
          have h_281 : c_263 41 6 = c2 41 6 := (hid kn_280)
          refine v_cv c_206_49 km_8_199 rfl rfl (Nat.le_of_ble_eq_true rfl) ⟨⟨rfl, rfl⟩, Nat.le_of_ble_eq_true rfl, rfl⟩ (Nat.le_of_ble_eq_true rfl) (Nat.le_of_ble_eq_true rfl) (L_8 (m := c_53) (a2 := si - 1) (yg := y_65) (e1 := e1) (a9 := (nx F e1 a)) (f0 := 0) (F := F) (H := H) hI_264 hI_54 hI_63 (show (-1) ≤ si - 1 ∧ si - 1 ≤ 9999 from ⟨by first | exact rgm_l (rg_eq hg_si h_5).1 (by decide) | omega, by first | exact rgm_h (rg_eq hg_si h_5).2 (by decide) | omega⟩) ⟨(Int.le_trans (by decide) hy_65.1), (Int.le_trans hy_65.2 (by decide))⟩ ((hid kn_270)) ((hid kn_267)) ((hz_56)) ((hid kn_61)) (fun j => ((hF_55 2 j (fun h => absurd h.1 (nn rfl))).trans ((hF_19 2 j (fun h => absurd h.1 (nn rfl))).trans (hFm 2 j (qn_32acee3e7 hA)))).trans (hF j)) (fun j => ((hF_265 43 j (fun h => absurd h.1 (nn rfl))).trans (hFc 43 j qn_7235d2764)).trans (hH j)) hU (rt_i1 ⟨by first | assumption | omega, by first | assumption | omega, by first | assumption | omega, by first | assumption | omega⟩) hG_67 (fun c_282 y_285 hI_283 hF_284 hy_285 hR_286 h_287 h_288 h_289 h_290 => (bk_inl ?_)))
          have hs_291 := h_287.symm
          subst hs_291
          refine q_istore c_206_52 (Nat.le_of_ble_eq_true rfl) (q_aload_n c_206_54 rfl (v_cv c_206_55 km_8_131 rfl rfl (Nat.le_of_ble_eq_true rfl) ⟨⟨rfl, rfl⟩, Nat.le_of_ble_eq_true rfl, rfl⟩ (Nat.le_of_ble_eq_true rfl) (Nat.le_of_ble_eq_true rfl) (q_aload_n c_152_0 rfl ?_)))
          have h_292 := ir_41_5 hI_283
          have h_293 := ir_41_4 hI_283
          have h_294 := ir_41_6 hI_283
          have h_295 := rt_bad hR_286 (by first | exact q_646bc4652 h_241 h_242 | omega)
          have hrb_hR_286 := rt_bad hR_286 (by first | exact q_f7b7d720f h_295 | omega)
          refine v_gi (z := 5) (v := c_62 1 5) c_152_1 kf_8_102 rfl (Nat.le_of_ble_eq_true rfl) rfl rfl hrb_hR_286.2.1 (q_iconst c_152_4 (v_ic_ne_t (t := 12) c_152_5 rfl ⟨by first | exact q_0f78863d3 h_295 | omega, ⟨(Int.le_trans (by decide) h_249.1), (Int.le_trans h_249.2 (by decide))⟩, by decide, by decide⟩ (q_iconst c_152_12 (v_zret c_152_13 rfl (by decide) (bk_inl (v_if_eq_t (t := 73) c_206_58 rfl (by decide) (q_aload_n c_206_73 rfl ?_)))))))
          refine v_bip c_206_74 (by decide) (v_cv c_206_76 km_8_229 rfl rfl (Nat.le_of_ble_eq_true rfl) ⟨⟨rfl, rfl⟩, Nat.le_of_ble_eq_true rfl, rfl⟩ (Nat.le_of_ble_eq_true rfl) (Nat.le_of_ble_eq_true rfl) (q_aload_n c_161_0 rfl (v_cv c_161_1 km_8_131 rfl rfl (Nat.le_of_ble_eq_true rfl) ⟨⟨rfl, rfl⟩, Nat.le_of_ble_eq_true rfl, rfl⟩ (Nat.le_of_ble_eq_true rfl) (Nat.le_of_ble_eq_true rfl) (q_aload_n c_152_0 rfl (v_gi (z := 5) (v := c_62 1 5) c_152_1 kf_8_102 rfl (Nat.le_of_ble_eq_true rfl) rfl rfl hrb_hR_286.2.1 (q_iconst c_152_4 (v_ic_ne_t (t := 12) c_152_5 rfl ⟨by first | exact q_0f78863d3 h_295 | omega, ⟨(Int.le_trans (by decide) h_249.1), (Int.le_trans h_249.2 (by decide))⟩, by decide, by decide⟩ ?_)))))))
          refine q_iconst c_152_12 (v_zret c_152_13 rfl (by decide) (bk_inl (v_if_eq_t (t := 24) c_161_4 rfl (by decide) (q_aload_n c_161_24 rfl (v_cv c_161_25 km_8_131 rfl rfl (Nat.le_of_ble_eq_true rfl) ⟨⟨rfl, rfl⟩, Nat.le_of_ble_eq_true rfl, rfl⟩ (Nat.le_of_ble_eq_true rfl) (Nat.le_of_ble_eq_true rfl) (q_aload_n c_152_0 rfl (v_gi (z := 5) (v := c_62 1 5) c_152_1 kf_8_102 rfl (Nat.le_of_ble_eq_true rfl) rfl rfl hrb_hR_286.2.1 ?_)))))))
          refine q_iconst c_152_4 (v_ic_ne_t (t := 12) c_152_5 rfl ⟨by first | exact q_0f78863d3 h_295 | omega, ⟨(Int.le_trans (by decide) h_249.1), (Int.le_trans h_249.2 (by decide))⟩, by decide, by decide⟩ (q_iconst c_152_12 (v_zret c_152_13 rfl (by decide) (bk_inl (v_if_eq_t (t := 41) c_161_28 rfl (by decide) (q_vret rfl rfl (bk_inl ?_)))))))
          refine q_aload_n c_206_79 rfl (v_cv c_206_80 km_8_131 rfl rfl (Nat.le_of_ble_eq_true rfl) ⟨⟨rfl, rfl⟩, Nat.le_of_ble_eq_true rfl, rfl⟩ (Nat.le_of_ble_eq_true rfl) (Nat.le_of_ble_eq_true rfl) (q_aload_n c_152_0 rfl (v_gi (z := 5) (v := c_62 1 5) c_152_1 kf_8_102 rfl (Nat.le_of_ble_eq_true rfl) rfl rfl hrb_hR_286.2.1 (q_iconst c_152_4 (v_ic_ne_t (t := 12) c_152_5 rfl ⟨by first | exact q_0f78863d3 h_295 | omega, ⟨(Int.le_trans (by decide) h_249.1), (Int.le_trans h_249.2 (by decide))⟩, by decide, by decide⟩ (q_iconst c_152_12 (v_zret c_152_13 rfl (by decide) ?_)))))))
          refine bk_inl (v_if_ne_f (t := 89) c_206_83 rfl (by decide) (q_goto (t := 103) c_206_86 rfl (Wp_ls [(0, .ref 41), (1, vi a1), (2, vi v)] (lsub_cons rfl (lsub_cons rfl (lsub_cons rfl lsub_nil))) ?_)))
          have h_296 : c_282 41 5 = c_62 1 5 := hrb_hR_286.2.1
          have h_297 : c_282 41 6 = c_62 1 4 := hrb_hR_286.2.2.2
          exact K c_282 v hI_283 (fun a j hm => (hF_284 a j (qv_18666c177 hm)).trans ((hF_265 a j (fun h => hm (Or.inl h))).trans (hFc a j hm))) ⟨by omega, by omega⟩ (rt_i2 ⟨⟨by first | exact q_c4ab36c8d h_245 h_295 | omega, by first | exact q_c99d6ea93 h_244 | omega⟩, by first | exact q_88dc5fb99 h_251 | omega, by first | exact q_cb71117a2 h_251 h_295 | omega, by first | exact q_88dc5fb99 h_245 | omega⟩) (Or.inr (Or.inl (by first | exact q_374cd1df9 h_245 h_295 | omega)))
        · refine v_if_ne_f (t := 17) c_7_4 rfl (Decidable.not_not.mp h_242) (q_aload_n c_7_7 rfl (q_iload_n c_7_8 rfl (v_pi (z := 4) c_7_9 kf_5_38 rfl (Nat.le_of_ble_eq_true rfl) rfl rfl rfl (by decide) (q_aload_n c_7_12 rfl (q_iload_n c_7_13 rfl (v_pi (z := 5) c_7_14 kf_5_15 rfl (Nat.le_of_ble_eq_true rfl) rfl rfl rfl (by decide) (q_vret rfl rfl ?_)))))))
          refine bk_inl (q_goto (t := 63) c_35_48 rfl (q_aload_n c_35_63 rfl (q_ldc_s c_35_64 rfl rfl (by decide) (v_cv c_35_66 km_2_77 rfl rfl (Nat.le_of_ble_eq_true rfl) ⟨⟨rfl, rfl⟩, Nat.le_of_ble_eq_true rfl, rfl⟩ (Nat.le_of_ble_eq_true rfl) (Nat.le_of_ble_eq_true rfl) (q_aload_n c_11_0 rfl (v_cv c_11_1 km_5_45 rfl rfl (Nat.le_of_ble_eq_true rfl) ⟨⟨rfl, rfl⟩, Nat.le_of_ble_eq_true rfl, rfl⟩ (Nat.le_of_ble_eq_true rfl) (Nat.le_of_ble_eq_true rfl) (q_aload_n c_2_0 rfl ?_)))))))
          refine v_gi (z := 4) (v := 3) c_2_1 kf_5_38 rfl (Nat.le_of_ble_eq_true rfl) rfl rfl ((up_n (by decide)).trans (up_e rfl)) (v_if_ne_t (t := 11) c_2_4 rfl (by decide) (q_iconst c_2_11 (v_zret c_2_12 rfl (by decide) (bk_inl (v_if_eq_t (t := 25) c_11_4 rfl (by decide) (q_vret rfl rfl (bk_inl ?_)))))))
          refine v_iinc (v := v + 1) c_35_69 rfl (Nat.le_of_ble_eq_true rfl) rfl (q_goto (t := 4) c_35_72 rfl (q_iload_n c_35_4 rfl (v_bip c_35_5 (by decide) (v_ic_gt_t (t := 75) c_35_7 rfl ⟨by decide, by first | exact q_9c3d50365 h_68 | omega, by first | exact rgp_h hv.2 (by decide) | omega⟩ (q_aload_n c_35_75 rfl (v_cv c_35_76 km_2_68 rfl rfl (Nat.le_of_ble_eq_true rfl) ⟨⟨rfl, rfl⟩, Nat.le_of_ble_eq_true rfl, rfl⟩ (Nat.le_of_ble_eq_true rfl) (Nat.le_of_ble_eq_true rfl) (q_aload_n c_2_0 rfl ?_)))))))
          refine v_gi (z := 4) (v := 3) c_2_1 kf_5_38 rfl (Nat.le_of_ble_eq_true rfl) rfl rfl ((up_n (by decide)).trans (up_e rfl)) (v_if_ne_t (t := 11) c_2_4 rfl (by decide) (q_iconst c_2_11 (v_zret c_2_12 rfl (by decide) (bk_inl (v_if_eq_t (t := 102) c_35_79 rfl (by decide) (q_vret rfl rfl ?_))))))
          have hI_298 := iw_1_4 (v := 3) hI_63 ⟨by decide, by decide⟩
          have hI_299 := iw_1_5 (v := (nx F e1 a)) hI_298 ⟨by first | exact q_9531afe7c h_14 ha | omega, by first | exact q_8ee92dabb h_1 h_22 hg_e1 | omega⟩
          intro hE_300
          have hW : Wd P Q P P (up (up c_62 1 4 3) 1 5 (nx F e1 a)) = Wd P Q P P m9 := (Prod.mk.inj (Prod.mk.inj hE_300).2).1
          have h_301 := ir_1_4 hJ9
          have h_302 : m9 1 4 = 3 := wd_fv (z := 4) 4 rfl hW rfl rfl rfl rfl (by decide) ((up_n (by decide)).trans (up_e rfl)) ⟨by decide, by decide⟩ ⟨(Int.le_trans (by decide) h_301.1), (Int.le_trans h_301.2 (by decide))⟩
          have h_303 := ir_1_2 hI_63
          have h_304 := ir_1_2 hJ9
          have h_305 : m9 1 2 = c_62 1 2 := wd_fv (z := 2) 2 rfl hW rfl rfl rfl rfl (by decide) ((up_n (by decide)).trans (up_n (by decide))) ⟨(Int.le_trans (by decide) h_303.1), (Int.le_trans h_303.2 (by decide))⟩ ⟨(Int.le_trans (by decide) h_304.1), (Int.le_trans h_304.2 (by decide))⟩
          have h_306 := ir_1_5 hJ9
          have h_307 : m9 1 5 = (nx F e1 a) := wd_fv (z := 5) 5 rfl hW rfl rfl rfl rfl (by decide) (up_e rfl) ⟨by first | exact q_378c2316e h_14 ha | omega, by first | exact q_f47c0b92d h_2 h_22 hr_e1 | omega⟩ ⟨(Int.le_trans (by decide) h_306.1), (Int.le_trans h_306.2 (by decide))⟩
          have h_308 := ir_p0_4 hJ2 hA
          have kn_309 : Hid (c_17 A 4 = m2 A 4) := hF_19 A 4 (fun h => absurd h.1 (np0 hA rfl))
          have kn_310 : Hid (c_53 A 4 = m2 A 4) := (hF_55 A 4 (fun h => absurd h.1 (np0 hA rfl))).trans (hid kn_309)
          have kn_311 : Hid (c_62 A 4 = m2 A 4) := (hF_64 A 4 (qn_014d425e1 hA)).trans (hid kn_310)
          have h_312 := ir_p0_4 hJ9 hA
          have h_313 : m9 A 4 = m2 A 4 := wd_fv (z := 4) 4 rfl hW (ck_p0 hA) (ck_p0 hA) rfl rfl (a68z hA) ((up_c (np0 hA rfl)).trans ((up_c (np0 hA rfl)).trans (hid kn_311))) ⟨by first | exact q_ad61fcb20 h_308 | omega, by first | exact q_68855c780 h_308 | omega⟩ ⟨(Int.le_trans (by decide) h_312.1), (Int.le_trans h_312.2 (by decide))⟩
          refine q_aload_n c_206_22 rfl (v_cv c_206_23 km_8_131 rfl rfl (Nat.le_of_ble_eq_true rfl) ⟨⟨rfl, rfl⟩, Nat.le_of_ble_eq_true rfl, rfl⟩ (Nat.le_of_ble_eq_true rfl) (Nat.le_of_ble_eq_true rfl) (q_aload_n c_152_0 rfl (v_gi (z := 5) (v := (-1)) c_152_1 kf_8_102 rfl (Nat.le_of_ble_eq_true rfl) rfl rfl (hc_1) (q_iconst c_152_4 (v_ic_ne_f (t := 12) c_152_5 rfl (by decide) (q_iconst c_152_8 (q_goto (t := 13) c_152_9 rfl ?_)))))))
          refine v_zret c_152_13 rfl (by decide) (bk_inl (v_if_eq_f (t := 103) c_206_26 rfl (by decide) (q_aload_n c_206_29 rfl (v_cv c_206_30 km_8_211 rfl rfl (Nat.le_of_ble_eq_true rfl) ⟨⟨rfl, rfl⟩, Nat.le_of_ble_eq_true rfl, rfl⟩ (Nat.le_of_ble_eq_true rfl) (Nat.le_of_ble_eq_true rfl) (q_aload_n c_162_0 rfl ?_)))))
          have kn_314 : Hid (c2 41 3 = e1) := (hFc 41 3 qn_974b23dce).trans (hr_e1)
          have h_315 : -2147483648 ≤ (H (nx F e1 a)) ∧ (H (nx F e1 a)) ≤ 2147483647 := by rw [← hH (nx F e1 a)]; exact ir_43 hI (nx F e1 a)
          have h_316 := hU (nx F e1 a) (by first | exact q_a7eda21a5 h_14 ha | omega) (by first | exact q_6c5402073 h_2 h_22 hr_e1 | omega)
          have h_317 := hb_or (b := H) (e := e1) (r := (nx F e1 a))
          have h_318 := hb_bd (b := H) (e := e1) (r := (nx F e1 a)) (lo := -2147483648) (hi := 2147483647) h_315 (by decide)
          refine v_cv c_162_1 km_8_114 rfl rfl (Nat.le_of_ble_eq_true rfl) ⟨⟨rfl, rfl⟩, Nat.le_of_ble_eq_true rfl, rfl⟩ (Nat.le_of_ble_eq_true rfl) (Nat.le_of_ble_eq_true rfl) (f_154 (e1 := e1) (a9 := a) (B := H) (r8 := (nx F e1 a)) (r := (hb H e1 (nx F e1 a))) hI2 ((hid kn_314)) ((hr_a)) (fun j => (hFc 43 j qn_7235d2764).trans (hH j)) ((nx_tr hU (ha.1) ((rg_eq hg_e1 h_1).2)).trans (rfl)) rfl (fun c_319 hI_320 hF_321 h_322 => (bk_inl (q_pop c_162_4 rfl (q_aload_n c_162_5 rfl (v_gi (z := 4) (v := (nx F e1 a)) c_162_6 kf_8_108 rfl (Nat.le_of_ble_eq_true rfl) rfl rfl (h_322) (q_aload_n c_162_9 rfl ?_)))))))
          have kn_323 : Hid (c_319 41 3 = e1) := (hF_321 41 3 (fun h => absurd h.2 (ni rfl))).trans (hid kn_314)
          refine v_gi (z := 3) (v := e1) c_162_10 kf_8_111 rfl (Nat.le_of_ble_eq_true rfl) rfl rfl (hid kn_323) (v_ic_ge_f (t := 20) c_162_13 rfl ⟨by first | exact q_378c2316e h_14 ha | omega, by first | exact q_d17d18138 h_22 | omega, (Int.le_trans (rg_eq hg_e1 h_1).2 (by decide))⟩ (q_iconst c_162_16 (q_goto (t := 21) c_162_17 rfl (v_zret c_162_21 rfl (by decide) (bk_inl (v_if_eq_f (t := 103) c_206_33 rfl (by decide) (q_aload_n c_206_36 rfl ?_)))))))
          refine v_gi (z := 4) (v := (nx F e1 a)) c_206_37 kf_8_108 rfl (Nat.le_of_ble_eq_true rfl) rfl rfl (h_322) (q_istore_n c_206_40 (Nat.le_of_ble_eq_true rfl) (q_aload_n c_206_41 rfl (q_iconst c_206_42 (q_aload_n c_206_43 rfl ?_))))
          have kn_324 : Hid (c2 41 22 = si) := (hFc 41 22 qn_236aabfbd).trans (hr_si)
          have kn_325 : Hid (c_319 41 22 = si) := (hF_321 41 22 (fun h => absurd h.2 (ni rfl))).trans (hid kn_324)
          refine v_gi (z := 22) (v := si) c_206_44 kf_8_163 rfl (Nat.le_of_ble_eq_true rfl) rfl rfl (hid kn_325) (q_iconst c_206_47 (v_isub (v := si - 1) c_206_48 rfl ?_))
          have kn_326 : Hid (c_53 1 1 = e1) := (hF_55 1 1 (fun h => absurd h.2 (ni rfl))).trans (hid kn_21)
          have h_327 : c_53 1 4 = 0 := (hid kn_61)
          have h_328 : c_53 1 2 = (nx F e1 a) := (hz_56)
          have kn_329 : Hid (c_17 1 5 = (-1)) := (hF_19 1 5 (fun h => absurd h.2 (ni rfl))).trans (hc_2)
          have kn_330 : Hid (c_53 1 5 = (-1)) := (hF_55 1 5 (fun h => absurd h.2 (ni rfl))).trans (hid kn_329)
          have h_331 : c_53 1 5 = (-1) := (hid kn_330)
          have kn_332 : Hid (c_319 41 5 = (-1)) := (hF_321 41 5 (fun h => absurd h.2 (ni rfl))).trans (hc_1)
          have h_333 : c_319 41 5 = (-1) := (hid kn_332)
          have h_334 : c_319 41 4 = (nx F e1 a) := (h_322)
          have h_335 := ir_41_6 hI2
          have kn_336 : Hid (c_319 41 6 = c2 41 6) := hF_321 41 6 (fun h => absurd h.2 (ni rfl))
          have h_337 : c_319 41 6 = c2 41 6 := (hid kn_336)
          refine v_cv c_206_49 km_8_199 rfl rfl (Nat.le_of_ble_eq_true rfl) ⟨⟨rfl, rfl⟩, Nat.le_of_ble_eq_true rfl, rfl⟩ (Nat.le_of_ble_eq_true rfl) (Nat.le_of_ble_eq_true rfl) (L_8 (m := c_53) (a2 := si - 1) (yg := y_65) (e1 := e1) (a9 := (nx F e1 a)) (f0 := 0) (F := F) (H := H) hI_320 hI_54 hI_63 (show (-1) ≤ si - 1 ∧ si - 1 ≤ 9999 from ⟨by first | exact rgm_l (rg_eq hg_si h_5).1 (by decide) | omega, by first | exact rgm_h (rg_eq hg_si h_5).2 (by decide) | omega⟩) ⟨(Int.le_trans (by decide) hy_65.1), (Int.le_trans hy_65.2 (by decide))⟩ ((hid kn_326)) ((hid kn_323)) ((hz_56)) ((hid kn_61)) (fun j => ((hF_55 2 j (fun h => absurd h.1 (nn rfl))).trans ((hF_19 2 j (fun h => absurd h.1 (nn rfl))).trans (hFm 2 j (qn_32acee3e7 hA)))).trans (hF j)) (fun j => ((hF_321 43 j (fun h => absurd h.1 (nn rfl))).trans (hFc 43 j qn_7235d2764)).trans (hH j)) hU (rt_i1 ⟨by first | assumption | omega, by first | assumption | omega, by first | assumption | omega, by first | assumption | omega⟩) hG_67 (fun c_338 y_341 hI_339 hF_340 hy_341 hR_342 h_343 h_344 h_345 h_346 => (bk_inl ?_)))
          have hs_347 := h_343.symm
          subst hs_347
          refine q_istore c_206_52 (Nat.le_of_ble_eq_true rfl) (q_aload_n c_206_54 rfl (v_cv c_206_55 km_8_131 rfl rfl (Nat.le_of_ble_eq_true rfl) ⟨⟨rfl, rfl⟩, Nat.le_of_ble_eq_true rfl, rfl⟩ (Nat.le_of_ble_eq_true rfl) (Nat.le_of_ble_eq_true rfl) (q_aload_n c_152_0 rfl ?_)))
          have h_348 := ir_41_5 hI_339
          have h_349 := ir_1_5 hI_63
          have h_350 := ir_41_4 hI_339
          have h_351 := ir_41_6 hI_339
          have h_352 := rt_ok hR_342 (by first | exact q_163d1c5eb h_241 h_242 | omega)
          have hro_hR_342 := rt_ok hR_342 (by first | exact q_163d1c5eb h_241 h_242 | omega)
          refine v_gi (z := 5) (v := (-1)) c_152_1 kf_8_102 rfl (Nat.le_of_ble_eq_true rfl) rfl rfl hro_hR_342.2.1 (q_iconst c_152_4 (v_ic_ne_f (t := 12) c_152_5 rfl (by decide) (q_iconst c_152_8 (q_goto (t := 13) c_152_9 rfl (v_zret c_152_13 rfl (by decide) (bk_inl (v_if_eq_f (t := 73) c_206_58 rfl (by decide) ?_)))))))
          refine q_iload_n c_206_61 rfl (v_bip c_206_62 (by decide) (v_ic_ne_f (t := 73) c_206_64 rfl (by first | exact q_6d316ef64 h_68 hv | omega) (q_aload_n c_206_67 rfl (q_iconst c_206_68 (q_iload_n c_206_69 rfl (v_cv c_206_70 km_8_138 rfl rfl (Nat.le_of_ble_eq_true rfl) ⟨⟨rfl, rfl⟩, Nat.le_of_ble_eq_true rfl, rfl⟩ (Nat.le_of_ble_eq_true rfl) (Nat.le_of_ble_eq_true rfl) (q_aload_n c_153_0 rfl ?_)))))))
          refine v_gi (z := 5) (v := (-1)) c_153_1 kf_8_102 rfl (Nat.le_of_ble_eq_true rfl) rfl rfl hro_hR_342.2.1 (q_iconst c_153_4 (v_ic_eq_t (t := 9) c_153_5 rfl (by decide) (q_aload_n c_153_9 rfl (q_iload_n c_153_10 rfl (v_pi (z := 5) c_153_11 kf_8_102 rfl (Nat.le_of_ble_eq_true rfl) rfl rfl rfl (by decide) (q_aload_n c_153_14 rfl (q_iload_n c_153_15 rfl ?_)))))))
          refine v_pi (z := 6) c_153_16 kf_8_105 rfl (Nat.le_of_ble_eq_true rfl) rfl rfl rfl (by decide) (q_vret rfl rfl (bk_inl (q_aload_n c_206_73 rfl (v_bip c_206_74 (by decide) (v_cv c_206_76 km_8_229 rfl rfl (Nat.le_of_ble_eq_true rfl) ⟨⟨rfl, rfl⟩, Nat.le_of_ble_eq_true rfl, rfl⟩ (Nat.le_of_ble_eq_true rfl) (Nat.le_of_ble_eq_true rfl) (q_aload_n c_161_0 rfl (v_cv c_161_1 km_8_131 rfl rfl (Nat.le_of_ble_eq_true rfl) ⟨⟨rfl, rfl⟩, Nat.le_of_ble_eq_true rfl, rfl⟩ (Nat.le_of_ble_eq_true rfl) (Nat.le_of_ble_eq_true rfl) ?_)))))))
          refine q_aload_n c_152_0 rfl (v_gi (z := 5) (v := (nx F e1 a)) c_152_1 kf_8_102 rfl (Nat.le_of_ble_eq_true rfl) rfl rfl ((up_n (by decide)).trans (up_e rfl)) (q_iconst c_152_4 (v_ic_ne_t (t := 12) c_152_5 rfl ⟨by first | exact q_1f202bb18 h_14 ha | omega, ⟨by first | exact q_378c2316e h_14 ha | omega, by first | exact q_783468581 h_306 h_307 | omega⟩, by decide, by decide⟩ (q_iconst c_152_12 (v_zret c_152_13 rfl (by decide) (bk_inl (v_if_eq_t (t := 24) c_161_4 rfl (by decide) ?_)))))))
          refine q_aload_n c_161_24 rfl (v_cv c_161_25 km_8_131 rfl rfl (Nat.le_of_ble_eq_true rfl) ⟨⟨rfl, rfl⟩, Nat.le_of_ble_eq_true rfl, rfl⟩ (Nat.le_of_ble_eq_true rfl) (Nat.le_of_ble_eq_true rfl) (q_aload_n c_152_0 rfl (v_gi (z := 5) (v := (nx F e1 a)) c_152_1 kf_8_102 rfl (Nat.le_of_ble_eq_true rfl) rfl rfl ((up_n (by decide)).trans (up_e rfl)) (q_iconst c_152_4 (v_ic_ne_t (t := 12) c_152_5 rfl ⟨by first | exact q_1f202bb18 h_14 ha | omega, ⟨by first | exact q_378c2316e h_14 ha | omega, by first | exact q_783468581 h_306 h_307 | omega⟩, by decide, by decide⟩ (q_iconst c_152_12 (v_zret c_152_13 rfl (by decide) ?_)))))))
          refine bk_inl (v_if_eq_t (t := 41) c_161_28 rfl (by decide) (q_vret rfl rfl (bk_inl (q_aload_n c_206_79 rfl (v_cv c_206_80 km_8_131 rfl rfl (Nat.le_of_ble_eq_true rfl) ⟨⟨rfl, rfl⟩, Nat.le_of_ble_eq_true rfl, rfl⟩ (Nat.le_of_ble_eq_true rfl) (Nat.le_of_ble_eq_true rfl) (q_aload_n c_152_0 rfl (v_gi (z := 5) (v := (nx F e1 a)) c_152_1 kf_8_102 rfl (Nat.le_of_ble_eq_true rfl) rfl rfl ((up_n (by decide)).trans (up_e rfl)) ?_)))))))
          refine q_iconst c_152_4 (v_ic_ne_t (t := 12) c_152_5 rfl ⟨by first | exact q_1f202bb18 h_14 ha | omega, ⟨by first | exact q_378c2316e h_14 ha | omega, by first | exact q_783468581 h_306 h_307 | omega⟩, by decide, by decide⟩ (q_iconst c_152_12 (v_zret c_152_13 rfl (by decide) (bk_inl (v_if_ne_f (t := 89) c_206_83 rfl (by decide) (q_goto (t := 103) c_206_86 rfl (Wp_ls [(0, .ref 41), (1, vi a1), (2, vi v)] (lsub_cons rfl (lsub_cons rfl (lsub_cons rfl lsub_nil))) ?_)))))))
          have hI_353 := iw_41_5 (v := (nx F e1 a)) hI_339 ⟨by first | exact q_9531afe7c h_14 ha | omega, by first | exact q_6094bb0fa h_306 h_307 | omega⟩
          have hI_354 := iw_41_6 (v := 3) hI_353 ⟨by decide, by decide⟩
          have h_355 : (up (up c_338 41 5 (nx F e1 a)) 41 6 3) 41 5 = (nx F e1 a) := ((up_n (by decide)).trans (up_e rfl))
          have h_356 : (up (up c_338 41 5 (nx F e1 a)) 41 6 3) 41 4 = c_62 1 2 := ((((up_n (by decide)).trans (up_n (by decide)))).trans (hro_hR_342.2.2.1))
          have h_357 : (up (up c_338 41 5 (nx F e1 a)) 41 6 3) 41 6 = 3 := (up_e rfl)
          exact K (up (up c_338 41 5 (nx F e1 a)) 41 6 3) v hI_354 (fun a j hm => (up_b (Decidable.or_iff_not_imp_left.mpr (fun h1 h2 => hm (Or.inr (Or.inr (Or.inl ⟨Decidable.not_not.mp h1, h2⟩)))))).trans ((up_b (Decidable.or_iff_not_imp_left.mpr (fun h1 h2 => hm (Or.inr (Or.inl ⟨Decidable.not_not.mp h1, h2⟩))))).trans ((hF_340 a j (qv_18666c177 hm)).trans ((hF_321 a j (fun h => hm (Or.inl h))).trans (hFc a j hm))))) ⟨by omega, by omega⟩ (rt_i2 ⟨⟨by first | exact q_fcb6ff4be h_302 | omega, by first | exact q_c99d6ea93 h_301 | omega⟩, by first | exact q_88dc5fb99 h_307 | omega, by first | exact q_0a27ce016 h_14 h_307 ha | omega, by first | exact q_bff6e6fd4 h_301 h_302 | omega⟩) (Or.inr (Or.inl (by first | exact q_33afb0047 h_302 | omega)))
set_option maxRecDepth 100000 in
set_option maxHeartbeats 4000000 in
theorem L_35 {sc : List Int32} {e eg : Int} {d dh u ug P Q P2 Q2 A : Nat} {c m m9 : ME} {a1 e1 f0 g0 si : Int} {F H : Int → Int} {Z : AR → Prop} (hI : Iv u e P2 Q2 c) (hJ : Iv ug eg P Q m) (hJ9 : Iv ug eg P Q m9) (hA : A = 13 ∨ A = 25) (ha1 : (-2147483648) ≤ a1 ∧ a1 ≤ 2147483647) (hq0 : (f0 = 0)) (hq1 : (g0 = (-1))) (hg_e1 : m 1 1 = e1) (hr_e1 : c 41 3 = e1) (hg_f0 : m 1 4 = f0) (hg_g0 : m 1 5 = g0) (hg_si : m A 2 = si) (hr_si : c 41 22 = si) (hF : ∀ j : Int, m 2 j = F j) (hH : ∀ j : Int, c 43 j = H j) (hU : Ub F H) (hRt : Rt m c) (hG : Wp sc (dh + 30) 35 0 [(0, .ref A), (1, .ref 1)] [] (Wd P Q P P m) 0 0 (fun q => q = (.inl (none), Wd P Q P P m9, 0, 0))) (K : ∀ (c2 : ME) (y : Int), Iv u e P2 Q2 c2 → (∀ (a : Nat) (j : Int), ¬ ((a = 41 ∧ j = 4) ∨ (a = 41 ∧ j = 5) ∨ (a = 41 ∧ j = 6) ∨ a = 61) → c2 a j = c a j) → 0 ≤ y ∧ y ≤ 8 → (Rt m9 c2) → ((m9 1 4 < 0) ∨ (m9 1 4 > 0) ∨ (m9 A 4 = y)) → Wp sc (d + 22) 206 103 [(0, .ref 41), (1, vi a1), (2, vi y)] [] (Wd P2 Q2 P2 P2 c2) 0 0 Z) : Wp sc (d + 22) 206 22 [(0, .ref 41), (1, vi a1), (2, vi 0)] [] (Wd P2 Q2 P2 P2 c) 0 0 Z := by
  have hP := iv_P hJ
  have hQ := iv_Q hJ
  have h_358 := ir_1_1 hJ
  have h_359 := ir_41_3 hI
  have h_360 := ir_1_4 hJ
  have h_361 := ir_1_5 hJ
  have h_362 := ir_p0_2 hJ hA
  have h_363 := ir_41_22 hI
  refine gh hG (q_iconst c_35_0 (q_istore_n c_35_1 (Nat.le_of_ble_eq_true rfl) (q_iconst c_35_2 (q_istore_n c_35_3 (Nat.le_of_ble_eq_true rfl) (Wp_ls [(0, .ref A), (1, .ref 1), (2, vi 0), (3, vi 0)] (lsub_cons rfl (lsub_cons rfl (lsub_cons rfl (lsub_cons rfl lsub_nil)))) (gh_stop (s_35_l (sc := sc) (d := dh + 20) (c := m) (Z := fun _ => True) hJ hA (fun _ _ _ => trivial) 20 m 0 0 hJ (fun a j hm => rfl) ⟨by omega, by omega⟩ ⟨by omega, by omega⟩ (fun j h1 h2 => by omega) (by omega) (by omega)) (fun hG_364 => (Wp_ls [(0, .ref 41), (1, vi a1), (2, vi 0)] (lsub_cons rfl (lsub_cons rfl (lsub_cons rfl lsub_nil))) ?_))))))))
  have h_365 := ir_1_2 hJ
  have h_366 := ir_41_4 hI
  have h_367 := ir_41_5 hI
  have h_368 := ir_41_6 hI
  have h_369 := rt_ok hRt (by first | exact q_2cabce820 h_360 hg_f0 hq0 | omega)
  have hro_hRt := rt_ok hRt (by first | exact q_f9c88a064 hq0 | omega)
  exact (L_35_l (sc := sc) (d := d) (dh := dh) hI hJ hJ9 hA ha1 hq0 hq1 hg_e1 hr_e1 hg_f0 hg_g0 hg_si hr_si hF hH hU hRt K 10) c m 0 0 (m 1 2) hI (fun a j hm => rfl) hJ (fun a j hm => rfl) ⟨by decide, by decide⟩ ⟨by decide, by decide⟩ ⟨by first | exact q_f0beed051 h_365 | omega, by first | exact q_c7aae8bb3 h_365 | omega⟩ (rfl) (hro_hRt.2.2.1) ((show _ = f0 from (hg_f0)).trans (by first | exact q_f9c88a064 hq0 | omega)) (hro_hRt.2.1) ((show _ = g0 from (hg_g0)).trans (by first | exact q_ef26995af hq1 | omega)) (fun j h1 h2 => by omega) (by first | assumption | omega) hG_364 (by omega)

set_option maxRecDepth 100000 in
set_option maxHeartbeats 4000000 in
theorem L_87 {sc : List Int32} {d dh P Q P2 Q2 : Nat} {c m m9 : ME} {a1 yg t9 si : Int} {F H : Int → Int} {Z : AR → Prop} (hI : Iv 0 (-1) P2 Q2 c) (hJ : Iv 0 (-1) P Q m) (hJ9 : Iv 0 (-1) P Q m9) (ha1 : (-2147483648) ≤ a1 ∧ a1 ≤ 2147483647) (hyg : (-2147483648) ≤ yg ∧ yg ≤ 2147483647) (hq0 : (a1 ≥ 0 ∧ a1 ≤ t9 ∧ a1 ≤ 60)) (hg_t9 : m 1 3 = t9) (hr_t9 : c 41 2 = t9) (hg_si : m P 2 = si) (hr_si : c 41 22 = si) (hF : ∀ j : Int, m 2 j = F j) (hH : ∀ j : Int, c 43 j = H j) (hU : Ub F H) (hG : Wp sc (dh + 50) 87 0 [(0, .ref 0), (1, vi a1)] [] (Wd P Q P P m) 0 0 (fun q => q = (.inl (some (vi yg)), Wd P Q P P m9, 0, 0))) (K : ∀ (c2 : ME) (y : Int), Iv 0 (-1) P2 Q2 c2 → (∀ (a : Nat) (j : Int), ¬ ((a = 41 ∧ j = 0) ∨ a = 42 ∨ (a = 41 ∧ j = 2) ∨ (a = 41 ∧ j = 3) ∨ (a = 41 ∧ j = 4) ∨ (a = 41 ∧ j = 5) ∨ (a = 41 ∧ j = 6) ∨ (a = 41 ∧ j = 7) ∨ (a = 41 ∧ j = 8) ∨ (a = 41 ∧ j = 47) ∨ a = 61 ∨ a = 62) → c2 a j = c a j) → (-2147483648) ≤ y ∧ y ≤ 2147483647 → ((y = yg)) → ((c2 41 2 = 0)) → ((c2 41 8 = m9 1 5)) → ((c2 41 0 = 0)) → Z (.inl (some (vi y)), Wd P2 Q2 P2 P2 c2, 0, 0)) : Wp sc (d + 40) 206 0 [(0, .ref 41), (1, vi a1)] [] (Wd P2 Q2 P2 P2 c) 0 0 Z := by
  have hP := iv_P hJ
  have hQ := iv_Q hJ
  have h_1 := ir_1_3 hJ
  have h_2 := ir_41_2 hI
  have h_3 := ir_p0_2 hJ hP
  have h_4 := ir_41_22 hI
  refine gh hG (q_aload_n c_87_0 rfl (q_iload_n c_87_1 rfl (v_bip c_87_2 (by decide) (v_cv c_87_4 km_7_81 rfl rfl (Nat.le_of_ble_eq_true rfl) ⟨⟨rfl, rfl⟩, Nat.le_of_ble_eq_true rfl, rfl⟩ (Nat.le_of_ble_eq_true rfl) (Nat.le_of_ble_eq_true rfl) (q_aload_n c_82_0 rfl (q_iload_n c_82_1 rfl (q_iconst c_82_2 ?_)))))))
  refine q_iload_n c_82_3 rfl (q_aload_n c_82_4 rfl (v_gr (t := 1) c_82_5 kf_7_10 rfl (Nat.le_of_ble_eq_true rfl) rfl (v_gi (z := 3) (v := t9) c_82_8 kf_7_77 rfl (Nat.le_of_ble_eq_true rfl) rfl rfl (hg_t9) (v_minx c_82_11 rfl (by omega) (Nat.le_of_ble_eq_true rfl) ⟨by omega, by omega, by omega, by omega⟩ (fun y_5 hy_5 => (q_call c_82_14 rfl rfl rfl (q_iload_n c_80_0 rfl (q_iload_n c_80_1 rfl ?_))))))))
  refine v_ic_lt_f (t := 14) c_80_2 rfl ⟨by decide, by first | exact q_111774ab2 hq0 | omega, ha1.2⟩ (q_iload_n c_80_5 rfl (q_iload_n c_80_6 rfl (v_ic_gt_f (t := 14) c_80_7 rfl (by omega) (q_iconst c_80_10 (q_goto (t := 15) c_80_11 rfl (v_zret c_80_15 rfl (by decide) (bk_inl ?_)))))))
  refine v_cv c_82_17 km_7_161 rfl rfl (Nat.le_of_ble_eq_true rfl) ⟨⟨rfl, rfl⟩, Nat.le_of_ble_eq_true rfl, rfl⟩ (Nat.le_of_ble_eq_true rfl) (Nat.le_of_ble_eq_true rfl) (q_iload_n c_81_0 rfl (v_if_ne_t (t := 25) c_81_1 rfl (by decide) (q_vret rfl rfl (bk_inl (q_aload_n c_82_20 rfl (v_gr (t := 1) c_82_21 kf_7_10 rfl (Nat.le_of_ble_eq_true rfl) rfl (q_iload_n c_82_24 rfl ?_)))))))
  refine v_cv c_82_25 km_7_348 rfl rfl (Nat.le_of_ble_eq_true rfl) ⟨⟨rfl, rfl⟩, Nat.le_of_ble_eq_true rfl, rfl⟩ (Nat.le_of_ble_eq_true rfl) (Nat.le_of_ble_eq_true rfl) (q_aload_n c_74_0 rfl (q_iload_n c_74_1 rfl (q_aload_n c_74_2 rfl (v_gi (z := 3) (v := t9) c_74_3 kf_5_19 rfl (Nat.le_of_ble_eq_true rfl) rfl rfl (hg_t9) (v_minx c_74_6 rfl (by omega) (Nat.le_of_ble_eq_true rfl) ⟨by omega, by omega, by omega, by omega⟩ (fun y_6 hy_6 => (v_pi (z := 1) c_74_9 kf_5_32 rfl (Nat.le_of_ble_eq_true rfl) rfl rfl rfl (by decide) (q_aload_n c_74_12 rfl ?_))))))))
  refine q_iconst c_74_13 (v_pi (z := 2) c_74_14 kf_5_35 rfl (Nat.le_of_ble_eq_true rfl) rfl rfl rfl (by decide) (q_aload_n c_74_17 rfl (q_iconst c_74_18 (v_pi (z := 3) c_74_19 kf_5_19 rfl (Nat.le_of_ble_eq_true rfl) rfl rfl rfl (by decide) (q_aload_n c_74_22 rfl (q_iconst c_74_23 (v_pi (z := 4) c_74_24 kf_5_38 rfl (Nat.le_of_ble_eq_true rfl) rfl rfl rfl (by decide) ?_)))))))
  refine q_aload_n c_74_27 rfl (q_iconst c_74_28 (v_pi (z := 5) c_74_29 kf_5_15 rfl (Nat.le_of_ble_eq_true rfl) rfl rfl rfl (by decide) (q_vret rfl rfl (bk_inl (q_vret rfl rfl (bk_inl (q_aload_n c_87_7 rfl ?_)))))))
  refine v_gr (t := P) c_87_8 kf_7_50 rfl (Nat.le_of_ble_eq_true rfl) rfl (q_aload_n c_87_11 rfl (v_gr (t := 1) c_87_12 kf_7_10 rfl (Nat.le_of_ble_eq_true rfl) rfl ?_))
  have hI_7 := iw_1_1 (v := y_6) hJ ⟨by omega, by omega⟩
  have hI_8 := iw_1_2 (v := 0) hI_7 ⟨by decide, by decide⟩
  have hI_9 := iw_1_3 (v := 0) hI_8 ⟨by decide, by decide⟩
  have hI_10 := iw_1_4 (v := 0) hI_9 ⟨by decide, by decide⟩
  have hI_11 := iw_1_5 (v := (-1)) hI_10 ⟨by decide, by decide⟩
  refine v_cv c_87_15 km_7_142 rfl (ck_p0 hP) (a68z hP) ⟨⟨rfl, rfl⟩, by decide, rfl⟩ (Nat.le_of_ble_eq_true rfl) (Nat.le_of_ble_eq_true rfl) (fn_of (s_35 hI_11 hP (fun c_12 hI_13 hF_14 => ?_)))
  intro hG_15
  refine bk_inl (q_aload_n c_87_18 rfl (q_aload_n c_87_19 rfl (v_gr (t := P) c_87_20 kf_7_50 rfl (Nat.le_of_ble_eq_true rfl) rfl ?_)))
  have h_16 := ir_p0_4 hI_13 hP
  refine v_gi (z := 4) (v := c_12 P 4) c_87_23 kf_7_145 (ck_p0 hP) (a68z hP) rfl rfl rfl (v_cv c_87_26 km_7_105 rfl rfl (Nat.le_of_ble_eq_true rfl) ⟨⟨rfl, rfl⟩, Nat.le_of_ble_eq_true rfl, rfl⟩ (Nat.le_of_ble_eq_true rfl) (Nat.le_of_ble_eq_true rfl) (q_aload_n c_83_0 rfl (v_gr (t := 1) c_83_1 kf_7_10 rfl (Nat.le_of_ble_eq_true rfl) rfl (v_cv c_83_4 km_7_89 rfl rfl (Nat.le_of_ble_eq_true rfl) ⟨⟨rfl, rfl⟩, Nat.le_of_ble_eq_true rfl, rfl⟩ (Nat.le_of_ble_eq_true rfl) (Nat.le_of_ble_eq_true rfl) (q_aload_n c_2_0 rfl ?_)))))
  have h_17 := ir_1_4 hI_13
  refine v_gi (z := 4) (v := c_12 1 4) c_2_1 kf_5_38 rfl (Nat.le_of_ble_eq_true rfl) rfl rfl rfl ?_
  by_cases h_18 : c_12 1 4 ≠ 0
  · refine v_if_ne_t (t := 11) c_2_4 rfl ⟨h_18, ⟨(Int.le_trans (by decide) h_17.1), (Int.le_trans h_17.2 (by decide))⟩, by decide, by decide⟩ (q_iconst c_2_11 (v_zret c_2_12 rfl (by decide) (bk_inl (v_if_eq_t (t := 14) c_83_7 rfl (by decide) (q_aload_n c_83_14 rfl (v_gr (t := 1) c_83_15 kf_7_10 rfl (Nat.le_of_ble_eq_true rfl) rfl (v_gi (z := 4) (v := c_12 1 4) c_83_18 kf_7_351 rfl (Nat.le_of_ble_eq_true rfl) rfl rfl rfl ?_)))))))
    refine v_bip c_83_21 (by decide) (v_isub (v := c_12 1 4 - 10) c_83_23 rfl (q_iret c_83_24 rfl (bk_inl (q_iret c_87_29 rfl ?_))))
    intro hE_19
    have h_20 : yg = c_12 1 4 - 10 := (vi_inj ⟨by omega, by omega⟩ ⟨by omega, by omega⟩ (Option.some.inj (Sum.inl.inj (Prod.mk.inj hE_19).1))).symm
    have hW : Wd P Q P P c_12 = Wd P Q P P m9 := (Prod.mk.inj (Prod.mk.inj hE_19).2).1
    have h_21 := ir_1_5 hI_13
    have h_22 := ir_1_5 hJ9
    have h_23 : m9 1 5 = c_12 1 5 := wd_fv (z := 5) 5 rfl hW rfl rfl rfl rfl (by decide) rfl ⟨(Int.le_trans (by decide) h_21.1), (Int.le_trans h_21.2 (by decide))⟩ ⟨(Int.le_trans (by decide) h_22.1), (Int.le_trans h_22.2 (by decide))⟩
    refine q_aload_n c_206_0 rfl (q_iconst c_206_1 (v_pi (z := 0) c_206_2 kf_8_3 rfl (Nat.le_of_ble_eq_true rfl) rfl rfl rfl (by decide) (q_aload_n c_206_5 rfl (q_iload_n c_206_6 rfl (v_cv c_206_7 km_8_381 rfl rfl (Nat.le_of_ble_eq_true rfl) ⟨⟨rfl, rfl⟩, Nat.le_of_ble_eq_true rfl, rfl⟩ (Nat.le_of_ble_eq_true rfl) (Nat.le_of_ble_eq_true rfl) (q_aload_n c_205_0 rfl (q_iload_n c_205_1 rfl ?_)))))))
    refine v_if_lt_f (t := 23) c_205_2 rfl ⟨by decide, by first | exact q_111774ab2 hq0 | omega, ha1.2⟩ (q_iload_n c_205_5 rfl (q_aload_n c_205_6 rfl (v_gi (z := 2) (v := t9) c_205_7 kf_8_99 rfl (Nat.le_of_ble_eq_true rfl) rfl rfl ((up_n (by decide)).trans (hr_t9)) (v_ic_gt_f (t := 23) c_205_10 rfl ⟨ha1.1, by first | exact q_3162967ed hq0 | omega, (Int.le_trans (rg_eq hg_t9 h_1).2 (by decide))⟩ (q_iload_n c_205_13 rfl (v_bip c_205_14 (by decide) (v_ic_gt_f (t := 23) c_205_16 rfl ⟨ha1.1, by first | exact q_fb30c34d4 hq0 | omega, by decide⟩ ?_)))))))
    refine q_iconst c_205_19 (q_goto (t := 24) c_205_20 rfl (q_iconst c_205_24 (q_iconst c_205_25 (v_cv c_205_26 km_8_203 rfl rfl (Nat.le_of_ble_eq_true rfl) ⟨⟨rfl, rfl⟩, Nat.le_of_ble_eq_true rfl, rfl⟩ (Nat.le_of_ble_eq_true rfl) (Nat.le_of_ble_eq_true rfl) (q_iload_n c_145_0 rfl (v_if_ne_t (t := 26) c_145_1 rfl (by decide) (q_aload_n c_145_26 rfl ?_)))))))
    refine v_gi (z := 0) (v := 0) c_145_27 kf_8_3 rfl (Nat.le_of_ble_eq_true rfl) rfl rfl (up_e rfl) (v_if_ne_f (t := 37) c_145_30 rfl (by decide) (q_iconst c_145_33 (q_goto (t := 38) c_145_34 rfl (v_zret c_145_38 rfl (by decide) (bk_inl (v_zret c_205_29 rfl (by decide) (bk_inl ?_)))))))
    refine v_if_ne_t (t := 15) c_206_10 rfl (by decide) (q_aload_n c_206_15 rfl (q_iload_n c_206_16 rfl ?_))
    have hI_24 := iw_41_0 (v := 0) hI ⟨by decide, by decide⟩
    refine v_cv c_206_17 km_8_207 rfl rfl (Nat.le_of_ble_eq_true rfl) ⟨⟨rfl, rfl⟩, Nat.le_of_ble_eq_true rfl, rfl⟩ (Nat.le_of_ble_eq_true rfl) (Nat.le_of_ble_eq_true rfl) (s_163 (a1 := a1) hI_24 (show 0 ≤ a1 ∧ a1 ≤ 600 from ⟨by first | exact q_111774ab2 hq0 | omega, by first | exact q_25be75120 hq0 | omega⟩) (fun c_25 hI_26 hF_27 h_28 => (bk_inl ?_)))
    have h_29 := ir_41_2 hI_26
    have h_30 := ir_41_3 hI_26
    have h_31 := ir_41_4 hI_26
    have h_32 := ir_41_5 hI_26
    have h_33 := ir_41_7 hI_26
    refine q_iconst c_206_20 (q_istore_n c_206_21 (Nat.le_of_ble_eq_true rfl) (Wp_ls [(0, .ref 41), (1, vi a1), (2, vi 0)] (lsub_cons rfl (lsub_cons rfl (lsub_cons rfl lsub_nil))) ?_))
    have kn_34 : Hid (c_25 41 22 = si) := (hF_27 41 22 qn_702f7a732).trans ((up_n (by decide)).trans (hr_si))
    have h_35 : (up (up (up (up (up m 1 1 y_6) 1 2 0) 1 3 0) 1 4 0) 1 5 (-1)) 1 4 = 0 := ((up_n (by decide)).trans (up_e rfl))
    have h_36 : (up (up (up (up (up m 1 1 y_6) 1 2 0) 1 3 0) 1 4 0) 1 5 (-1)) 1 2 = 0 := ((up_n (by decide)).trans ((up_n (by decide)).trans ((up_n (by decide)).trans (up_e rfl))))
    have h_37 : (up (up (up (up (up m 1 1 y_6) 1 2 0) 1 3 0) 1 4 0) 1 5 (-1)) 1 5 = (-1) := (up_e rfl)
    have h_38 := ir_41_6 hI
    have kn_39 : Hid (c_25 41 6 = c 41 6) := (hF_27 41 6 qn_eb0d473e8).trans (up_n (by decide))
    have h_40 : c_25 41 6 = c 41 6 := (hid kn_39)
    refine L_35 (m := up (up (up (up (up m 1 1 y_6) 1 2 0) 1 3 0) 1 4 0) 1 5 (-1)) (a1 := a1) (e1 := y_6) (f0 := 0) (g0 := (-1)) (si := si) (F := F) (H := H) hI_26 hI_11 hI_13 hP (show (-2147483648) ≤ a1 ∧ a1 ≤ 2147483647 from ha1) (by first | assumption | omega) (by first | assumption | omega) (((up_n (by decide)).trans ((up_n (by decide)).trans ((up_n (by decide)).trans ((up_n (by decide)).trans (up_e rfl)))))) (((show _ = c_25 41 3 from rfl).trans (by first | assumption | exact Int.le_antisymm (by first | (clear ha1 h_1 hg_t9 h_2 hr_t9 h_3 hg_si h_4 hr_si h_16 h_17 h_20 h_21 h_22 h_23 h_29 h_30 h_31 h_32 h_33 h_18; omega) | omega) (by first | (clear ha1 hq0 h_1 hg_t9 h_2 hr_t9 h_3 hg_si h_4 hr_si h_16 h_17 h_20 h_21 h_22 h_23 h_29 h_30 h_31 h_32 h_33 h_18; omega) | omega)))) (((up_n (by decide)).trans (up_e rfl))) ((up_e rfl)) (((up_c (np0 hP rfl)).trans ((up_c (np0 hP rfl)).trans ((up_c (np0 hP rfl)).trans ((up_c (np0 hP rfl)).trans ((up_c (np0 hP rfl)).trans (hg_si))))))) ((hid kn_34)) (fun j => ((up_c (nn rfl)).trans ((up_c (nn rfl)).trans ((up_c (nn rfl)).trans ((up_c (nn rfl)).trans (up_c (nn rfl)))))).trans (hF j)) (fun j => ((hF_27 43 j qn_78d42cb5c).trans (up_c (nn rfl))).trans (hH j)) hU (rt_i1 ⟨by first | assumption | omega, by first | exact q_6d0a553af h_28 h_32 | omega, by first | exact q_a7ddc6b3b h_28 h_31 | omega, by first | assumption | omega⟩) hG_15 (fun c_41 y_44 hI_42 hF_43 hy_44 hR_45 h_46 => (q_aload_n c_206_103 rfl (q_iload_n c_206_104 rfl ?_)))
    refine v_cv c_206_105 km_8_232 rfl rfl (Nat.le_of_ble_eq_true rfl) ⟨⟨rfl, rfl⟩, Nat.le_of_ble_eq_true rfl, rfl⟩ (Nat.le_of_ble_eq_true rfl) (Nat.le_of_ble_eq_true rfl) (q_aload_n c_164_0 rfl (q_aload_n c_164_1 rfl ?_))
    have h_47 := ir_41_5 hI_42
    have h_48 := ir_1_2 hI_13
    have h_49 := ir_41_4 hI_42
    have h_50 := ir_41_6 hI_42
    have h_51 := rt_bad hR_45 (by first | exact q_646bc4652 h_17 h_18 | omega)
    have hrb_hR_45 := rt_bad hR_45 (by first | exact q_f7b7d720f h_51 | omega)
    refine v_gi (z := 5) (v := c_12 1 5) c_164_2 kf_8_102 rfl (Nat.le_of_ble_eq_true rfl) rfl rfl hrb_hR_45.2.1 (v_pi (z := 8) c_164_5 kf_8_17 rfl (Nat.le_of_ble_eq_true rfl) rfl rfl rfl (by decide) (q_aload_n c_164_8 rfl (v_cv c_164_9 km_8_131 rfl rfl (Nat.le_of_ble_eq_true rfl) ⟨⟨rfl, rfl⟩, Nat.le_of_ble_eq_true rfl, rfl⟩ (Nat.le_of_ble_eq_true rfl) (Nat.le_of_ble_eq_true rfl) (q_aload_n c_152_0 rfl (v_gi (z := 5) (v := c_12 1 5) c_152_1 kf_8_102 rfl (Nat.le_of_ble_eq_true rfl) rfl rfl (((up_n (by decide))).trans (hrb_hR_45.2.1)) (q_iconst c_152_4 (v_ic_ne_t (t := 12) c_152_5 rfl ⟨by first | exact q_0f78863d3 h_51 | omega, ⟨(Int.le_trans (by decide) h_21.1), (Int.le_trans h_21.2 (by decide))⟩, by decide, by decide⟩ ?_)))))))
    refine q_iconst c_152_12 (v_zret c_152_13 rfl (by decide) (bk_inl (v_if_eq_t (t := 19) c_164_12 rfl (by decide) (q_aload_n c_164_19 rfl (v_gi (z := 6) (v := c_12 1 4) c_164_20 kf_8_105 rfl (Nat.le_of_ble_eq_true rfl) rfl rfl (((up_n (by decide))).trans (hrb_hR_45.2.2.2)) (v_bip c_164_23 (by decide) (v_isub (v := c_12 1 4 - 10) c_164_25 rfl ?_)))))))
    refine q_iret c_164_26 rfl (bk_inl (q_istore_n c_206_108 (Nat.le_of_ble_eq_true rfl) (q_aload_n c_206_109 rfl (v_gi (z := 5) (v := c_12 1 5) c_206_110 kf_8_102 rfl (Nat.le_of_ble_eq_true rfl) rfl rfl (((up_n (by decide))).trans (hrb_hR_45.2.1)) (q_iconst c_206_113 (v_ic_eq_f (t := 119) c_206_114 rfl ⟨by first | exact q_0f78863d3 h_51 | omega, ⟨(Int.le_trans (by decide) h_21.1), (Int.le_trans h_21.2 (by decide))⟩, by decide, by decide⟩ (q_iload_n c_206_117 rfl ?_)))))))
    refine q_iret c_206_118 rfl ?_
    have hI_52 := iw_41_8 (v := c_12 1 5) hI_42 ⟨h_21.1, (Int.le_trans h_21.2 (by decide))⟩
    have kn_53 : Hid (c_41 41 2 = c_25 41 2) := hF_43 41 2 qn_812f37cf9
    have h_54 : (up c_41 41 8 (c_12 1 5)) 41 2 = c_25 41 2 := ((up_n (by decide)).trans (hid kn_53))
    have h_55 : (up c_41 41 8 (c_12 1 5)) 41 8 = c_12 1 5 := (up_e rfl)
    have kn_56 : Hid (c_25 41 0 = 0) := (hF_27 41 0 qn_18af663b8).trans (up_e rfl)
    have kn_57 : Hid (c_41 41 0 = 0) := (hF_43 41 0 qn_d9cf2859f).trans (hid kn_56)
    have h_58 : (up c_41 41 8 (c_12 1 5)) 41 0 = 0 := ((up_n (by decide)).trans (hid kn_57))
    exact K (up c_41 41 8 (c_12 1 5)) (c_12 1 4 - 10) hI_52 (fun a j hm => (up_b (Decidable.or_iff_not_imp_left.mpr (fun h1 h2 => hm (Or.inr (Or.inr (Or.inr (Or.inr (Or.inr (Or.inr (Or.inr (Or.inr (Or.inl ⟨Decidable.not_not.mp h1, h2⟩)))))))))))).trans ((hF_43 a j (qv_0d154537b hm)).trans ((hF_27 a j (qv_bce25eb69 hm)).trans (up_b (Decidable.or_iff_not_imp_left.mpr (fun h1 h2 => hm (Or.inl ⟨Decidable.not_not.mp h1, h2⟩))))))) ⟨by omega, by omega⟩ (by first | exact q_e5f29e5a1 h_20 | omega) (by first | exact q_59baff7b3 h_28 h_29 | omega) (by first | exact q_88dc5fb99 h_23 | omega) (by first | assumption | omega)
  · refine v_if_ne_f (t := 11) c_2_4 rfl (Decidable.not_not.mp h_18) (q_iconst c_2_7 (q_goto (t := 12) c_2_8 rfl (v_zret c_2_12 rfl (by decide) (bk_inl (v_if_eq_f (t := 14) c_83_7 rfl (by decide) (q_iload_n c_83_10 rfl (q_goto (t := 24) c_83_11 rfl ?_)))))))
    refine q_iret c_83_24 rfl (bk_inl (q_iret c_87_29 rfl ?_))
    intro hE_59
    have h_60 : yg = c_12 P 4 := (vi_inj ⟨by omega, by omega⟩ ⟨by omega, by omega⟩ (Option.some.inj (Sum.inl.inj (Prod.mk.inj hE_59).1))).symm
    have hW : Wd P Q P P c_12 = Wd P Q P P m9 := (Prod.mk.inj (Prod.mk.inj hE_59).2).1
    have h_61 := ir_1_5 hI_13
    have h_62 := ir_1_5 hJ9
    have h_63 : m9 1 5 = c_12 1 5 := wd_fv (z := 5) 5 rfl hW rfl rfl rfl rfl (by decide) rfl ⟨(Int.le_trans (by decide) h_61.1), (Int.le_trans h_61.2 (by decide))⟩ ⟨(Int.le_trans (by decide) h_62.1), (Int.le_trans h_62.2 (by decide))⟩
    refine q_aload_n c_206_0 rfl (q_iconst c_206_1 (v_pi (z := 0) c_206_2 kf_8_3 rfl (Nat.le_of_ble_eq_true rfl) rfl rfl rfl (by decide) (q_aload_n c_206_5 rfl (q_iload_n c_206_6 rfl (v_cv c_206_7 km_8_381 rfl rfl (Nat.le_of_ble_eq_true rfl) ⟨⟨rfl, rfl⟩, Nat.le_of_ble_eq_true rfl, rfl⟩ (Nat.le_of_ble_eq_true rfl) (Nat.le_of_ble_eq_true rfl) (q_aload_n c_205_0 rfl (q_iload_n c_205_1 rfl ?_)))))))
    refine v_if_lt_f (t := 23) c_205_2 rfl ⟨by decide, by first | exact q_111774ab2 hq0 | omega, ha1.2⟩ (q_iload_n c_205_5 rfl (q_aload_n c_205_6 rfl (v_gi (z := 2) (v := t9) c_205_7 kf_8_99 rfl (Nat.le_of_ble_eq_true rfl) rfl rfl ((up_n (by decide)).trans (hr_t9)) (v_ic_gt_f (t := 23) c_205_10 rfl ⟨ha1.1, by first | exact q_3162967ed hq0 | omega, (Int.le_trans (rg_eq hg_t9 h_1).2 (by decide))⟩ (q_iload_n c_205_13 rfl (v_bip c_205_14 (by decide) (v_ic_gt_f (t := 23) c_205_16 rfl ⟨ha1.1, by first | exact q_fb30c34d4 hq0 | omega, by decide⟩ ?_)))))))
    refine q_iconst c_205_19 (q_goto (t := 24) c_205_20 rfl (q_iconst c_205_24 (q_iconst c_205_25 (v_cv c_205_26 km_8_203 rfl rfl (Nat.le_of_ble_eq_true rfl) ⟨⟨rfl, rfl⟩, Nat.le_of_ble_eq_true rfl, rfl⟩ (Nat.le_of_ble_eq_true rfl) (Nat.le_of_ble_eq_true rfl) (q_iload_n c_145_0 rfl (v_if_ne_t (t := 26) c_145_1 rfl (by decide) (q_aload_n c_145_26 rfl ?_)))))))
    refine v_gi (z := 0) (v := 0) c_145_27 kf_8_3 rfl (Nat.le_of_ble_eq_true rfl) rfl rfl (up_e rfl) (v_if_ne_f (t := 37) c_145_30 rfl (by decide) (q_iconst c_145_33 (q_goto (t := 38) c_145_34 rfl (v_zret c_145_38 rfl (by decide) (bk_inl (v_zret c_205_29 rfl (by decide) (bk_inl ?_)))))))
    refine v_if_ne_t (t := 15) c_206_10 rfl (by decide) (q_aload_n c_206_15 rfl (q_iload_n c_206_16 rfl ?_))
    have hI_64 := iw_41_0 (v := 0) hI ⟨by decide, by decide⟩
    refine v_cv c_206_17 km_8_207 rfl rfl (Nat.le_of_ble_eq_true rfl) ⟨⟨rfl, rfl⟩, Nat.le_of_ble_eq_true rfl, rfl⟩ (Nat.le_of_ble_eq_true rfl) (Nat.le_of_ble_eq_true rfl) (s_163 (a1 := a1) hI_64 (show 0 ≤ a1 ∧ a1 ≤ 600 from ⟨by first | exact q_111774ab2 hq0 | omega, by first | exact q_25be75120 hq0 | omega⟩) (fun c_65 hI_66 hF_67 h_68 => (bk_inl ?_)))
    have h_69 := ir_41_2 hI_66
    have h_70 := ir_41_3 hI_66
    have h_71 := ir_41_4 hI_66
    have h_72 := ir_41_5 hI_66
    have h_73 := ir_41_7 hI_66
    refine q_iconst c_206_20 (q_istore_n c_206_21 (Nat.le_of_ble_eq_true rfl) (Wp_ls [(0, .ref 41), (1, vi a1), (2, vi 0)] (lsub_cons rfl (lsub_cons rfl (lsub_cons rfl lsub_nil))) ?_))
    have kn_74 : Hid (c_65 41 22 = si) := (hF_67 41 22 qn_702f7a732).trans ((up_n (by decide)).trans (hr_si))
    have h_75 : (up (up (up (up (up m 1 1 y_6) 1 2 0) 1 3 0) 1 4 0) 1 5 (-1)) 1 4 = 0 := ((up_n (by decide)).trans (up_e rfl))
    have h_76 : (up (up (up (up (up m 1 1 y_6) 1 2 0) 1 3 0) 1 4 0) 1 5 (-1)) 1 2 = 0 := ((up_n (by decide)).trans ((up_n (by decide)).trans ((up_n (by decide)).trans (up_e rfl))))
    have h_77 : (up (up (up (up (up m 1 1 y_6) 1 2 0) 1 3 0) 1 4 0) 1 5 (-1)) 1 5 = (-1) := (up_e rfl)
    have h_78 := ir_41_6 hI
    have kn_79 : Hid (c_65 41 6 = c 41 6) := (hF_67 41 6 qn_eb0d473e8).trans (up_n (by decide))
    have h_80 : c_65 41 6 = c 41 6 := (hid kn_79)
    refine L_35 (m := up (up (up (up (up m 1 1 y_6) 1 2 0) 1 3 0) 1 4 0) 1 5 (-1)) (a1 := a1) (e1 := y_6) (f0 := 0) (g0 := (-1)) (si := si) (F := F) (H := H) hI_66 hI_11 hI_13 hP (show (-2147483648) ≤ a1 ∧ a1 ≤ 2147483647 from ha1) (by first | assumption | omega) (by first | assumption | omega) (((up_n (by decide)).trans ((up_n (by decide)).trans ((up_n (by decide)).trans ((up_n (by decide)).trans (up_e rfl)))))) (((show _ = c_65 41 3 from rfl).trans (by first | assumption | exact Int.le_antisymm (by first | (clear ha1 h_1 hg_t9 h_2 hr_t9 h_3 hg_si h_4 hr_si h_16 h_17 h_18 h_60 h_61 h_62 h_63 h_69 h_70 h_71 h_72 h_73; omega) | omega) (by first | (clear ha1 hq0 h_1 hg_t9 h_2 hr_t9 h_3 hg_si h_4 hr_si h_16 h_17 h_18 h_60 h_61 h_62 h_63 h_69 h_70 h_71 h_72 h_73; omega) | omega)))) (((up_n (by decide)).trans (up_e rfl))) ((up_e rfl)) (((up_c (np0 hP rfl)).trans ((up_c (np0 hP rfl)).trans ((up_c (np0 hP rfl)).trans ((up_c (np0 hP rfl)).trans ((up_c (np0 hP rfl)).trans (hg_si))))))) ((hid kn_74)) (fun j => ((up_c (nn rfl)).trans ((up_c (nn rfl)).trans ((up_c (nn rfl)).trans ((up_c (nn rfl)).trans (up_c (nn rfl)))))).trans (hF j)) (fun j => ((hF_67 43 j qn_78d42cb5c).trans (up_c (nn rfl))).trans (hH j)) hU (rt_i1 ⟨by first | assumption | omega, by first | exact q_6d0a553af h_68 h_72 | omega, by first | exact q_a7ddc6b3b h_68 h_71 | omega, by first | assumption | omega⟩) hG_15 (fun c_81 y_84 hI_82 hF_83 hy_84 hR_85 h_86 => (q_aload_n c_206_103 rfl (q_iload_n c_206_104 rfl ?_)))
    refine v_cv c_206_105 km_8_232 rfl rfl (Nat.le_of_ble_eq_true rfl) ⟨⟨rfl, rfl⟩, Nat.le_of_ble_eq_true rfl, rfl⟩ (Nat.le_of_ble_eq_true rfl) (Nat.le_of_ble_eq_true rfl) (q_aload_n c_164_0 rfl (q_aload_n c_164_1 rfl ?_))
    have h_87 := ir_41_5 hI_82
    have h_88 := ir_1_2 hI_13
    have h_89 := ir_41_4 hI_82
    have h_90 := ir_41_6 hI_82
    have h_91 := rt_ok hR_85 (by first | exact q_163d1c5eb h_17 h_18 | omega)
    have hro_hR_85 := rt_ok hR_85 (by first | exact q_163d1c5eb h_17 h_18 | omega)
    refine v_gi (z := 5) (v := (-1)) c_164_2 kf_8_102 rfl (Nat.le_of_ble_eq_true rfl) rfl rfl hro_hR_85.2.1 (v_pi (z := 8) c_164_5 kf_8_17 rfl (Nat.le_of_ble_eq_true rfl) rfl rfl rfl (by decide) (q_aload_n c_164_8 rfl (v_cv c_164_9 km_8_131 rfl rfl (Nat.le_of_ble_eq_true rfl) ⟨⟨rfl, rfl⟩, Nat.le_of_ble_eq_true rfl, rfl⟩ (Nat.le_of_ble_eq_true rfl) (Nat.le_of_ble_eq_true rfl) (q_aload_n c_152_0 rfl (v_gi (z := 5) (v := (-1)) c_152_1 kf_8_102 rfl (Nat.le_of_ble_eq_true rfl) rfl rfl (((up_n (by decide))).trans (hro_hR_85.2.1)) (q_iconst c_152_4 (v_ic_ne_f (t := 12) c_152_5 rfl (by decide) ?_)))))))
    refine q_iconst c_152_8 (q_goto (t := 13) c_152_9 rfl (v_zret c_152_13 rfl (by decide) (bk_inl (v_if_eq_f (t := 19) c_164_12 rfl (by decide) (q_iload_n c_164_15 rfl (q_goto (t := 26) c_164_16 rfl (q_iret c_164_26 rfl ?_)))))))
    refine bk_inl (q_istore_n c_206_108 (Nat.le_of_ble_eq_true rfl) (q_aload_n c_206_109 rfl (v_gi (z := 5) (v := (-1)) c_206_110 kf_8_102 rfl (Nat.le_of_ble_eq_true rfl) rfl rfl (((up_n (by decide))).trans (hro_hR_85.2.1)) (q_iconst c_206_113 (v_ic_eq_t (t := 119) c_206_114 rfl (by decide) (q_aload_n c_206_119 rfl (q_iload_n c_206_120 rfl ?_)))))))
    refine v_pi (z := 47) c_206_121 kf_8_176 rfl (Nat.le_of_ble_eq_true rfl) rfl rfl rfl (by decide) (q_aload_n c_206_124 rfl (q_aload_n c_206_125 rfl (v_gr (t := 61) c_206_126 kf_8_74 rfl (Nat.le_of_ble_eq_true rfl) rfl (q_aload_n c_206_129 rfl (v_gr (t := 62) c_206_130 kf_8_77 rfl (Nat.le_of_ble_eq_true rfl) rfl (v_bip c_206_133 (by decide) (v_cv c_206_135 km_8_169 rfl rfl (Nat.le_of_ble_eq_true rfl) ⟨⟨rfl, rfl⟩, Nat.le_of_ble_eq_true rfl, rfl⟩ (Nat.le_of_ble_eq_true rfl) (Nat.le_of_ble_eq_true rfl) (s_148 (f := 61) (t := 62) (nf := 8) (nt := 8) (n := 8) rfl rfl (by decide) (by decide) (by decide) (by decide) (by decide) (by omega) ?_))))))))
    refine bk_inl (q_iload_n c_206_138 rfl (q_iret c_206_139 rfl ?_))
    have hI_92 := iw_41_8 (v := (-1)) hI_82 ⟨by decide, by decide⟩
    have hI_93 := iw_41_47 (v := y_84) hI_92 ⟨by first | (clear ha1 hq0 h_1 hg_t9 h_2 hr_t9 h_3 hg_si h_4 hr_si h_16 h_17 h_18 h_60 h_61 h_62 h_63 h_69 h_70 h_71 h_72 h_73 h_68 h_78 h_87 h_88 h_89 h_90 h_91 h_86; omega) | omega, by first | (clear ha1 hq0 h_1 hg_t9 h_2 hr_t9 h_3 hg_si h_4 hr_si h_16 h_17 h_18 h_60 h_61 h_62 h_63 h_69 h_70 h_71 h_72 h_73 h_68 h_78 h_87 h_88 h_89 h_90 h_91 h_86; omega) | omega⟩
    have hI_94 := cp_61_62 hI_93
    have kn_95 : Hid (c_81 41 2 = c_65 41 2) := hF_83 41 2 qn_812f37cf9
    have h_96 : (upc (up (up c_81 41 8 (-1)) 41 47 y_84) 61 0 62 0 8) 41 2 = c_65 41 2 := ((upc_c (by omega)).trans ((up_n (by decide)).trans ((up_n (by decide)).trans (hid kn_95))))
    have h_97 : (upc (up (up c_81 41 8 (-1)) 41 47 y_84) 61 0 62 0 8) 41 8 = (-1) := ((upc_c (by omega)).trans ((up_n (by decide)).trans (up_e rfl)))
    have kn_98 : Hid (c_65 41 0 = 0) := (hF_67 41 0 qn_18af663b8).trans (up_e rfl)
    have kn_99 : Hid (c_81 41 0 = 0) := (hF_83 41 0 qn_d9cf2859f).trans (hid kn_98)
    have h_100 : (upc (up (up c_81 41 8 (-1)) 41 47 y_84) 61 0 62 0 8) 41 0 = 0 := ((upc_c (by omega)).trans ((up_n (by decide)).trans ((up_n (by decide)).trans (hid kn_99))))
    exact K (upc (up (up c_81 41 8 (-1)) 41 47 y_84) 61 0 62 0 8) y_84 hI_94 (fun a j hm => (upc_c (fun h => hm (Or.inr (Or.inr (Or.inr (Or.inr (Or.inr (Or.inr (Or.inr (Or.inr (Or.inr (Or.inr (Or.inr h))))))))))))).trans ((up_b (Decidable.or_iff_not_imp_left.mpr (fun h1 h2 => hm (Or.inr (Or.inr (Or.inr (Or.inr (Or.inr (Or.inr (Or.inr (Or.inr (Or.inr (Or.inl ⟨Decidable.not_not.mp h1, h2⟩))))))))))))).trans ((up_b (Decidable.or_iff_not_imp_left.mpr (fun h1 h2 => hm (Or.inr (Or.inr (Or.inr (Or.inr (Or.inr (Or.inr (Or.inr (Or.inr (Or.inl ⟨Decidable.not_not.mp h1, h2⟩)))))))))))).trans ((hF_83 a j (qv_0d154537b hm)).trans ((hF_67 a j (qv_bce25eb69 hm)).trans (up_b (Decidable.or_iff_not_imp_left.mpr (fun h1 h2 => hm (Or.inl ⟨Decidable.not_not.mp h1, h2⟩))))))))) ⟨by omega, by omega⟩ (by first | exact q_a172e8945 h_17 h_18 h_60 h_86 | omega) (by first | exact q_59baff7b3 h_68 h_69 | omega) (by first | exact q_019e65e0c h_62 h_63 h_91 | omega) (by first | assumption | omega)

set_option maxRecDepth 100000 in
set_option maxHeartbeats 4000000 in
theorem L_36_l {sc : List Int32} {e eg : Int} {d dh u ug P Q P2 Q2 A : Nat} {c m m9 : ME} {a1 e1 f0 g0 z0 z1 z2 z3 : Int} {F H : Int → Int} {Z : AR → Prop} (hI : Iv u e P2 Q2 c) (hJ : Iv ug eg P Q m) (hJ9 : Iv ug eg P Q m9) (hA : A = 13 ∨ A = 25) (ha1 : (-2147483648) ≤ a1 ∧ a1 ≤ 2147483647) (hq0 : (f0 = 0)) (hq1 : (g0 = (-1))) (hq2 : (z0 = (-1))) (hq3 : (z1 = (-1))) (hq4 : (z2 = (-1))) (hq5 : (z3 = (-1))) (hg_e1 : m 1 1 = e1) (hr_e1 : c 41 3 = e1) (hg_f0 : m 1 4 = f0) (hg_g0 : m 1 5 = g0) (hr_z0 : c 63 0 = z0) (hr_z1 : c 63 1 = z1) (hr_z2 : c 63 2 = z2) (hr_z3 : c 63 3 = z3) (hF : ∀ j : Int, m 2 j = F j) (hH : ∀ j : Int, c 43 j = H j) (hU : Ub F H) (hRt : Rt m c) (K : ∀ (c2 : ME) (y : Int), Iv u e P2 Q2 c2 → (∀ (a : Nat) (j : Int), ¬ ((a = 41 ∧ j = 4) ∨ (a = 41 ∧ j = 5) ∨ (a = 41 ∧ j = 6) ∨ a = 63) → c2 a j = c a j) → 0 ≤ y ∧ y ≤ 4 → (Rt m9 c2) → ((m9 1 4 < 0) ∨ (m9 1 4 > 0) ∨ (m9 A 5 = y)) → Wp sc (d + 22) 207 134 [(0, .ref 41), (1, vi a1), (2, vi y)] [] (Wd P2 Q2 P2 P2 c2) 0 0 Z) : ∀ n : Nat, (∀ (c2 m2 : ME) (v : Int) (rd : Int) (a : Int), Iv u e P2 Q2 c2 → (∀ (a : Nat) (j : Int), ¬ ((a = 41 ∧ j = 4) ∨ (a = 41 ∧ j = 5) ∨ (a = 41 ∧ j = 6) ∨ a = 63) → c2 a j = c a j) → Iv ug eg P Q m2 → (∀ (a : Nat) (j : Int), ¬ ((a = 1 ∧ j = 2) ∨ (a = 1 ∧ j = 4) ∨ (a = 1 ∧ j = 5) ∨ (a = A ∧ j = 5) ∨ a = (A + 5) ∨ a = (A + 6)) → m2 a j = m a j) → 0 ≤ v ∧ v ≤ 4 → 0 ≤ rd ∧ rd ≤ 5 → 0 ≤ a ∧ a ≤ 600 → m2 1 2 = a → c2 41 4 = a → m2 1 4 = 0 → c2 41 5 = (-1) → m2 1 5 = (-1) → ((rd = v)) → (cnt (m2 (A + 5)) = v) → (Ae 4 (m2 (A + 5)) (c2 63)) → Wp sc (dh + 30) 36 24 [(0, .ref A), (1, .ref 1), (2, vi rd), (3, vi v)] [] (Wd P Q P P m2) 0 0 (fun q => q = (.inl (none), Wd P Q P P m9, 0, 0)) → 9 - v < (n : Int) → Wp sc (d + 22) 207 42 [(0, .ref 41), (1, vi a1), (2, vi v)] [] (Wd P2 Q2 P2 P2 c2) 0 0 Z)
  | 0 => by intro c2 m2 v rd a hI2 hFc hJ2 hFm hv hrd ha hg_a hr_a hc_0 hc_1 hc_2 hx0 hx1 hrl0 hG2 hm9; exfalso; omega
  | n + 1 => by
    have hP := iv_P hJ
    have hQ := iv_Q hJ
    have ih := L_36_l (sc := sc) (d := d) (dh := dh) hI hJ hJ9 hA ha1 hq0 hq1 hq2 hq3 hq4 hq5 hg_e1 hr_e1 hg_f0 hg_g0 hr_z0 hr_z1 hr_z2 hr_z3 hF hH hU hRt K n
    intro c2 m2 v rd a hI2 hFc hJ2 hFm hv hrd ha hg_a hr_a hc_0 hc_1 hc_2 hx0 hx1 hrl0 hG2 hm9
    have h_1 := ir_1_1 hJ
    have h_2 := ir_41_3 hI
    have h_3 := ir_1_4 hJ
    have h_4 := ir_1_5 hJ
    have h_5 := ir_63 hI 0
    have h_6 := ir_63 hI 1
    have h_7 := ir_63 hI 2
    have h_8 := ir_63 hI 3
    have h_9 := ir_1_2 hJ2
    have h_10 := ir_41_4 hI2
    have h_11 := ir_1_4 hJ2
    have h_12 := ir_41_5 hI2
    have h_13 := ir_1_5 hJ2
    have hcn := cnt_r (m2 (A + 5))
    refine gh hG2 (q_iload_n c_36_24 rfl (q_iconst c_36_25 (v_ic_gt_f (t := 97) c_36_26 rfl ⟨(Int.le_trans (by decide) hv.1), (Int.le_trans hv.2 (by decide)), by decide⟩ (q_aload_n c_36_29 rfl (v_cv c_36_30 km_2_44 rfl rfl (Nat.le_of_ble_eq_true rfl) ⟨⟨rfl, rfl⟩, Nat.le_of_ble_eq_true rfl, rfl⟩ (Nat.le_of_ble_eq_true rfl) (Nat.le_of_ble_eq_true rfl) (q_aload_n c_15_0 rfl (v_cv c_15_1 km_5_45 rfl rfl (Nat.le_of_ble_eq_true rfl) ⟨⟨rfl, rfl⟩, Nat.le_of_ble_eq_true rfl, rfl⟩ (Nat.le_of_ble_eq_true rfl) (Nat.le_of_ble_eq_true rfl) ?_)))))))
    refine q_aload_n c_2_0 rfl (v_gi (z := 4) (v := 0) c_2_1 kf_5_38 rfl (Nat.le_of_ble_eq_true rfl) rfl rfl (hc_0) (v_if_ne_f (t := 11) c_2_4 rfl (by decide) (q_iconst c_2_7 (q_goto (t := 12) c_2_8 rfl (v_zret c_2_12 rfl (by decide) (bk_inl (v_if_eq_f (t := 22) c_15_4 rfl (by decide) ?_)))))))
    refine q_aload_n c_15_7 rfl ?_
    have kn_14 : Hid (m2 1 1 = e1) := (hFm 1 1 (qn_bd2c2ec23 hA)).trans (hg_e1)
    have h_15 : -2147483648 ≤ (F a) ∧ (F a) ≤ 2147483647 := by rw [← hF a]; exact ir_2 hJ a
    have h_16 := nx_bd (b := F) (e := e1) (a := a)
    have h_17 : -2147483648 ≤ (F (nx F e1 a)) ∧ (F (nx F e1 a)) ≤ 2147483647 := by rw [← hF (nx F e1 a)]; exact ir_2 hJ (nx F e1 a)
    have h_18 := nx_n (b := F) (e := e1) (a := a)
    refine v_cv c_15_8 km_5_41 rfl rfl (Nat.le_of_ble_eq_true rfl) ⟨⟨rfl, rfl⟩, Nat.le_of_ble_eq_true rfl, rfl⟩ (Nat.le_of_ble_eq_true rfl) (Nat.le_of_ble_eq_true rfl) (f_3 (e1 := e1) (a9 := a) (B := F) (r8 := (nx F e1 a)) hJ2 ((hid kn_14)) ((hg_a)) (fun j => (hFm 2 j (qn_870496478 hA)).trans (hF j)) rfl (fun c_19 hI_20 hF_21 hz_22 => (bk_inl (q_aload_n c_15_11 rfl ?_))))
    have kn_23 : Hid (c_19 1 1 = e1) := (hF_21 1 1 (fun h => absurd h.2 (ni rfl))).trans (hid kn_14)
    refine v_gi (z := 1) (v := e1) c_15_12 kf_5_32 rfl (Nat.le_of_ble_eq_true rfl) rfl rfl (hid kn_23) ?_
    by_cases h_24 : (nx F e1 a) ≥ e1
    · refine v_ic_ge_t (t := 22) c_15_15 rfl ⟨(Int.le_trans (by decide) (rg_eq hg_e1 h_1).1), h_24, by first | exact q_0c52c1370 h_16 h_2 ha hr_e1 | omega⟩ (q_iconst c_15_22 (v_zret c_15_23 rfl (by decide) (bk_inl (v_if_eq_t (t := 97) c_36_33 rfl (by decide) (q_aload_n c_36_97 rfl (v_cv c_36_98 km_2_68 rfl rfl (Nat.le_of_ble_eq_true rfl) ⟨⟨rfl, rfl⟩, Nat.le_of_ble_eq_true rfl, rfl⟩ (Nat.le_of_ble_eq_true rfl) (Nat.le_of_ble_eq_true rfl) (q_aload_n c_2_0 rfl ?_)))))))
      have kn_25 : Hid (c_19 1 4 = 0) := (hF_21 1 4 (fun h => absurd h.2 (ni rfl))).trans (hc_0)
      refine v_gi (z := 4) (v := 0) c_2_1 kf_5_38 rfl (Nat.le_of_ble_eq_true rfl) rfl rfl (hid kn_25) (v_if_ne_f (t := 11) c_2_4 rfl (by decide) (q_iconst c_2_7 (q_goto (t := 12) c_2_8 rfl (v_zret c_2_12 rfl (by decide) (bk_inl (v_if_eq_f (t := 123) c_36_101 rfl (by decide) (q_aload_n c_36_104 rfl ?_)))))))
      refine v_gr (t := (A + 5)) c_36_105 kf_2_28 (ck_p0 hA) (a68z hA) rfl (q_iconst c_36_108 (q_aload_n c_36_109 rfl (v_gr (t := (A + 6)) c_36_110 kf_2_31 (ck_p0 hA) (a68z hA) rfl (q_iconst c_36_113 (q_iconst c_36_114 (v_cpy c_36_115 rfl (ck_p6 hA) (a68 hA rfl) (ck_p5 hA) (a68 hA rfl) rfl rfl (by omega) (Nat.le_of_ble_eq_true rfl) (by omega) (q_aload_n c_36_118 rfl ?_)))))))
      refine q_iload_n c_36_119 rfl (v_pi (z := 5) c_36_120 kf_2_93 (ck_p0 hA) (a68z hA) rfl rfl rfl (by decide) (q_vret rfl rfl ?_))
      have hI_26 := cp_p5_p6 (n := 4) hI_20 hA
      have hI_27 := iw_p0_5 (v := rd) hI_26 hA ⟨hrd.1, hrd.2⟩
      intro hE_28
      have hW : Wd P Q P P (up (upc c_19 (A + 5) 0 (A + 6) 0 4) A 5 rd) = Wd P Q P P m9 := (Prod.mk.inj (Prod.mk.inj hE_28).2).1
      have h_29 := ir_1_4 hJ9
      have h_30 : m9 1 4 = 0 := wd_fv (z := 4) 4 rfl hW rfl rfl rfl rfl (by decide) ((up_c (pn0 hA rfl)).trans ((upc_c (by omega)).trans (hid kn_25))) ⟨by decide, by decide⟩ ⟨(Int.le_trans (by decide) h_29.1), (Int.le_trans h_29.2 (by decide))⟩
      have h_31 := ir_1_2 hJ9
      have h_32 : m9 1 2 = (nx F e1 a) := wd_fv (z := 2) 2 rfl hW rfl rfl rfl rfl (by decide) ((up_c (pn0 hA rfl)).trans ((upc_c (by omega)).trans (hz_22))) ⟨by first | exact q_378c2316e h_16 ha | omega, by first | exact q_0c52c1370 h_16 h_2 ha hr_e1 | omega⟩ ⟨(Int.le_trans (by decide) h_31.1), (Int.le_trans h_31.2 (by decide))⟩
      have kn_33 : Hid (c_19 1 5 = (-1)) := (hF_21 1 5 (fun h => absurd h.2 (ni rfl))).trans (hc_2)
      have h_34 := ir_1_5 hJ9
      have h_35 : m9 1 5 = (-1) := wd_fv (z := 5) 5 rfl hW rfl rfl rfl rfl (by decide) ((up_c (pn0 hA rfl)).trans ((upc_c (by omega)).trans (hid kn_33))) ⟨by decide, by decide⟩ ⟨(Int.le_trans (by decide) h_34.1), (Int.le_trans h_34.2 (by decide))⟩
      have h_36 := ir_p0_5 hJ9 hA
      have h_37 : m9 A 5 = rd := wd_fv (z := 5) 5 rfl hW (ck_p0 hA) (ck_p0 hA) rfl rfl (a68z hA) (up_e rfl) ⟨(Int.le_trans (by decide) hrd.1), (Int.le_trans hrd.2 (by decide))⟩ ⟨(Int.le_trans (by decide) h_36.1), (Int.le_trans h_36.2 (by decide))⟩
      refine q_aload_n c_207_42 rfl (v_cv c_207_43 km_8_131 rfl rfl (Nat.le_of_ble_eq_true rfl) ⟨⟨rfl, rfl⟩, Nat.le_of_ble_eq_true rfl, rfl⟩ (Nat.le_of_ble_eq_true rfl) (Nat.le_of_ble_eq_true rfl) (q_aload_n c_152_0 rfl (v_gi (z := 5) (v := (-1)) c_152_1 kf_8_102 rfl (Nat.le_of_ble_eq_true rfl) rfl rfl (hc_1) (q_iconst c_152_4 (v_ic_ne_f (t := 12) c_152_5 rfl (by decide) (q_iconst c_152_8 (q_goto (t := 13) c_152_9 rfl ?_)))))))
      refine v_zret c_152_13 rfl (by decide) (bk_inl (v_if_eq_f (t := 134) c_207_46 rfl (by decide) (q_aload_n c_207_49 rfl (v_cv c_207_50 km_8_211 rfl rfl (Nat.le_of_ble_eq_true rfl) ⟨⟨rfl, rfl⟩, Nat.le_of_ble_eq_true rfl, rfl⟩ (Nat.le_of_ble_eq_true rfl) (Nat.le_of_ble_eq_true rfl) (q_aload_n c_162_0 rfl ?_)))))
      have kn_38 : Hid (c2 41 3 = e1) := (hFc 41 3 qn_bb859264f).trans (hr_e1)
      have h_39 : -2147483648 ≤ (H (nx F e1 a)) ∧ (H (nx F e1 a)) ≤ 2147483647 := by rw [← hH (nx F e1 a)]; exact ir_43 hI (nx F e1 a)
      have h_40 : (nx F e1 a) < 600 → (H (nx F e1 a)) = (F (nx F e1 a)) % 256 ∧ -128 ≤ (F (nx F e1 a)) ∧ (F (nx F e1 a)) ≤ 127 := fun q => hU (nx F e1 a) (by omega) q
      have h_41 := hb_or (b := H) (e := e1) (r := (nx F e1 a))
      have h_42 := hb_bd (b := H) (e := e1) (r := (nx F e1 a)) (lo := -2147483648) (hi := 2147483647) h_39 (by decide)
      refine v_cv c_162_1 km_8_114 rfl rfl (Nat.le_of_ble_eq_true rfl) ⟨⟨rfl, rfl⟩, Nat.le_of_ble_eq_true rfl, rfl⟩ (Nat.le_of_ble_eq_true rfl) (Nat.le_of_ble_eq_true rfl) (f_154 (e1 := e1) (a9 := a) (B := H) (r8 := (nx F e1 a)) (r := (hb H e1 (nx F e1 a))) hI2 ((hid kn_38)) ((hr_a)) (fun j => (hFc 43 j qn_a54ac4a59).trans (hH j)) ((nx_tr hU (ha.1) ((rg_eq hg_e1 h_1).2)).trans (rfl)) rfl (fun c_43 hI_44 hF_45 h_46 => (bk_inl (q_pop c_162_4 rfl (q_aload_n c_162_5 rfl (v_gi (z := 4) (v := (nx F e1 a)) c_162_6 kf_8_108 rfl (Nat.le_of_ble_eq_true rfl) rfl rfl (h_46) (q_aload_n c_162_9 rfl ?_)))))))
      have kn_47 : Hid (c_43 41 3 = e1) := (hF_45 41 3 (fun h => absurd h.2 (ni rfl))).trans (hid kn_38)
      refine v_gi (z := 3) (v := e1) c_162_10 kf_8_111 rfl (Nat.le_of_ble_eq_true rfl) rfl rfl (hid kn_47) (v_ic_ge_t (t := 20) c_162_13 rfl ⟨(Int.le_trans (by decide) (rg_eq hg_e1 h_1).1), by first | exact q_a29fbb6d7 h_24 | omega, by first | exact q_757c304f4 h_31 h_32 | omega⟩ (q_iconst c_162_20 (v_zret c_162_21 rfl (by decide) (bk_inl (v_if_eq_t (t := 134) c_207_53 rfl (by decide) (Wp_ls [(0, .ref 41), (1, vi a1), (2, vi v)] (lsub_cons rfl (lsub_cons rfl (lsub_cons rfl lsub_nil))) ?_))))))
      have kn_48 : Hid (c_43 41 5 = (-1)) := (hF_45 41 5 (fun h => absurd h.2 (ni rfl))).trans (hc_1)
      have h_49 : c_43 41 5 = (-1) := (hid kn_48)
      have h_50 : c_43 41 4 = (nx F e1 a) := (h_46)
      have h_51 := ir_41_6 hI2
      have kn_52 : Hid (c_43 41 6 = c2 41 6) := hF_45 41 6 (fun h => absurd h.2 (ni rfl))
      have h_53 : c_43 41 6 = c2 41 6 := (hid kn_52)
      exact K c_43 v hI_44 (fun a j hm => (hF_45 a j (fun h => hm (Or.inl h))).trans (hFc a j hm)) ⟨by omega, by omega⟩ (rt_i1 ⟨by first | exact q_f6b658f58 h_29 h_30 | omega, by first | assumption | omega, by first | exact q_88dc5fb99 h_32 | omega, by first | exact q_f39655ca6 h_34 h_35 | omega⟩) (Or.inr (Or.inr (by first | exact q_fca76e340 h_37 hx0 | omega)))
    · refine v_ic_ge_f (t := 22) c_15_15 rfl ⟨by first | exact q_378c2316e h_16 ha | omega, (Int.not_le.mp h_24), (Int.le_trans (rg_eq hg_e1 h_1).2 (by decide))⟩ (q_iconst c_15_18 (q_goto (t := 23) c_15_19 rfl (v_zret c_15_23 rfl (by decide) (bk_inl (v_if_eq_f (t := 97) c_36_33 rfl (by decide) (q_aload_n c_36_36 rfl (v_cv c_36_37 km_2_50 rfl rfl (Nat.le_of_ble_eq_true rfl) ⟨⟨rfl, rfl⟩, Nat.le_of_ble_eq_true rfl, rfl⟩ (Nat.le_of_ble_eq_true rfl) (Nat.le_of_ble_eq_true rfl) (f_3 (e1 := e1) (a9 := (nx F e1 a)) (B := F) (r8 := (nx F e1 a)) hI_20 ((hid kn_23)) ((hz_22)) (fun j => ((hF_21 2 j (fun h => absurd h.1 (nn rfl))).trans (hFm 2 j (qn_870496478 hA))).trans (hF j)) (nx_z (Or.inr (by first | exact q_b1e7f72d7 h_18 h_24 | omega))) (fun c_54 hI_55 hF_56 hz_57 => ?_)))))))))
      refine bk_inl (q_istore c_36_40 (Nat.le_of_ble_eq_true rfl) (q_aload_n c_36_42 rfl (q_iconst c_36_43 ?_)))
      have kn_58 : Hid (c_19 1 4 = 0) := (hF_21 1 4 (fun h => absurd h.2 (ni rfl))).trans (hc_0)
      have kn_59 : Hid (c_54 1 4 = 0) := (hF_56 1 4 (fun h => absurd h.2 (ni rfl))).trans (hid kn_58)
      refine v_cv c_36_44 km_2_101 rfl rfl (Nat.le_of_ble_eq_true rfl) ⟨⟨rfl, rfl⟩, Nat.le_of_ble_eq_true rfl, rfl⟩ (Nat.le_of_ble_eq_true rfl) (Nat.le_of_ble_eq_true rfl) (fn_of (s_8 (a1 := 3) hI_55 (show (-1) ≤ 3 ∧ 3 ≤ 9999 from ⟨by decide, by decide⟩) (fun c_60 y_63 hI_61 hF_62 hy_63 h_64 => ?_)))
      intro hG_65
      refine bk_inl ?_
      have h_66 := ir_p5 hJ2 hA y_63
      have h_67 : m2 (A + 5) y_63 = -1 → cnt (m2 (A + 5)) ≤ 3 := cnt_lt (by omega) (by omega)
      have h_68 : v ≤ 3 ∨ 0 ≤ m2 (A + 5) y_63 ∨ m2 (A + 5) y_63 ≤ -2 := by omega
      refine q_istore c_36_47 (Nat.le_of_ble_eq_true rfl) (q_aload_n c_36_49 rfl (v_gr (t := (A + 5)) c_36_50 kf_2_28 (ck_p0 hA) (a68z hA) rfl (q_iload c_36_53 rfl ?_)))
      have kn_69 : Hid (c_19 (A + 5) y_63 = m2 (A + 5) y_63) := hF_21 (A + 5) y_63 (fun h => absurd h.1 (np hA rfl rfl))
      have kn_70 : Hid (c_54 (A + 5) y_63 = m2 (A + 5) y_63) := (hF_56 (A + 5) y_63 (fun h => absurd h.1 (np hA rfl rfl))).trans (hid kn_69)
      have kn_71 : Hid (c_60 (A + 5) y_63 = m2 (A + 5) y_63) := (hF_62 (A + 5) y_63 (qn_31b6b4c08 hA)).trans (hid kn_70)
      refine v_ia (v := m2 (A + 5) y_63) c_36_55 (ck_p5 hA) (a68 hA rfl) (by decide) ⟨hy_63.1, by first | exact q_ef58644c7 h_64 | omega⟩ (hid kn_71) (q_iconst c_36_56 ?_)
      by_cases h_72 : m2 (A + 5) y_63 = (-1)
      · refine v_ic_eq_t (t := 67) c_36_57 rfl h_72 (q_aload_n c_36_67 rfl (v_gr (t := (A + 5)) c_36_68 kf_2_28 (ck_p0 hA) (a68z hA) rfl (q_iload c_36_71 rfl (q_aload_n c_36_73 rfl (v_sip c_36_74 (by decide) ?_)))))
        have h_73 := ir_1_4 hI_61
        refine v_cv c_36_77 km_2_101 rfl rfl (Nat.le_of_ble_eq_true rfl) ⟨⟨rfl, rfl⟩, Nat.le_of_ble_eq_true rfl, rfl⟩ (Nat.le_of_ble_eq_true rfl) (Nat.le_of_ble_eq_true rfl) (fn_of (s_8 (a1 := 9999) hI_61 (show (-1) ≤ 9999 ∧ 9999 ≤ 9999 from ⟨by decide, by decide⟩) (fun c_74 y_77 hI_75 hF_76 hy_77 h_78 => ?_)))
        intro hG_79
        refine bk_inl (v_is c_36_80 (ck_p5 hA) (a68 hA rfl) (by decide) ⟨hy_63.1, by first | exact q_ef58644c7 h_64 | omega⟩ (q_aload_n c_36_81 rfl (q_ldc_s c_36_82 rfl rfl (by decide) ?_)))
        have h_80 := ir_1_4 hI_75
        have hI_81 := iw_p5 (j := y_63) (v := y_77) hI_75 hA ⟨(Int.le_trans (by decide) hy_77.1), hy_77.2⟩
        refine v_cv c_36_84 km_2_77 rfl rfl (Nat.le_of_ble_eq_true rfl) ⟨⟨rfl, rfl⟩, Nat.le_of_ble_eq_true rfl, rfl⟩ (Nat.le_of_ble_eq_true rfl) (Nat.le_of_ble_eq_true rfl) (fn_of (s_11 hI_81 (q := 9) (nt := 1) (by decide) (by decide) (by decide) (fun c_82 hI_83 hF_84 => ?_)))
        intro hG_85
        refine bk_inl (q_iload_n c_36_87 rfl (q_iconst c_36_88 (v_iadd (v := v + 1) c_36_89 rfl (q_istore_n c_36_90 (Nat.le_of_ble_eq_true rfl) (v_iinc (v := v + 1) c_36_91 rfl (Nat.le_of_ble_eq_true rfl) rfl (q_goto (t := 24) c_36_94 rfl ?_))))))
        have h_86 := ir_1_4 hI_83
        by_cases h_87 : c_82 1 4 = 0
        · skip
          refine Wp_ls [(0, .ref A), (1, .ref 1), (2, vi (v + 1)), (3, vi (v + 1))] (lsub_cons rfl (lsub_cons rfl (lsub_cons rfl (lsub_cons rfl lsub_nil)))) (gh_stop ((s_36_l (sc := sc) (d := dh + 20) (c := c_82) (Z := fun _ => True) hI_83 hA (fun _ _ _ => trivial) 40).2 c_82 (v + 1) (v + 1) hI_83 (fun a j hm => rfl) ⟨by omega, by omega⟩ ⟨by omega, by omega⟩ (by omega)) (fun hG_88 => (q_aload_n c_207_42 rfl (v_cv c_207_43 km_8_131 rfl rfl (Nat.le_of_ble_eq_true rfl) ⟨⟨rfl, rfl⟩, Nat.le_of_ble_eq_true rfl, rfl⟩ (Nat.le_of_ble_eq_true rfl) (Nat.le_of_ble_eq_true rfl) (q_aload_n c_152_0 rfl (v_gi (z := 5) (v := (-1)) c_152_1 kf_8_102 rfl (Nat.le_of_ble_eq_true rfl) rfl rfl (hc_1) (q_iconst c_152_4 (v_ic_ne_f (t := 12) c_152_5 rfl (by decide) ?_))))))))
          refine q_iconst c_152_8 (q_goto (t := 13) c_152_9 rfl (v_zret c_152_13 rfl (by decide) (bk_inl (v_if_eq_f (t := 134) c_207_46 rfl (by decide) (q_aload_n c_207_49 rfl (v_cv c_207_50 km_8_211 rfl rfl (Nat.le_of_ble_eq_true rfl) ⟨⟨rfl, rfl⟩, Nat.le_of_ble_eq_true rfl, rfl⟩ (Nat.le_of_ble_eq_true rfl) (Nat.le_of_ble_eq_true rfl) (q_aload_n c_162_0 rfl ?_)))))))
          have kn_89 : Hid (c2 41 3 = e1) := (hFc 41 3 qn_bb859264f).trans (hr_e1)
          have h_90 : -2147483648 ≤ (H (nx F e1 a)) ∧ (H (nx F e1 a)) ≤ 2147483647 := by rw [← hH (nx F e1 a)]; exact ir_43 hI (nx F e1 a)
          have h_91 := hU (nx F e1 a) (by first | exact q_a7eda21a5 h_16 ha | omega) (by first | exact q_6c5402073 h_2 h_24 hr_e1 | omega)
          have h_92 := hb_or (b := H) (e := e1) (r := (nx F e1 a))
          have h_93 := hb_bd (b := H) (e := e1) (r := (nx F e1 a)) (lo := -2147483648) (hi := 2147483647) h_90 (by decide)
          refine v_cv c_162_1 km_8_114 rfl rfl (Nat.le_of_ble_eq_true rfl) ⟨⟨rfl, rfl⟩, Nat.le_of_ble_eq_true rfl, rfl⟩ (Nat.le_of_ble_eq_true rfl) (Nat.le_of_ble_eq_true rfl) (f_154 (e1 := e1) (a9 := a) (B := H) (r8 := (nx F e1 a)) (r := (hb H e1 (nx F e1 a))) hI2 ((hid kn_89)) ((hr_a)) (fun j => (hFc 43 j qn_a54ac4a59).trans (hH j)) ((nx_tr hU (ha.1) ((rg_eq hg_e1 h_1).2)).trans (rfl)) rfl (fun c_94 hI_95 hF_96 h_97 => (bk_inl (q_pop c_162_4 rfl (q_aload_n c_162_5 rfl (v_gi (z := 4) (v := (nx F e1 a)) c_162_6 kf_8_108 rfl (Nat.le_of_ble_eq_true rfl) rfl rfl (h_97) (q_aload_n c_162_9 rfl ?_)))))))
          have kn_98 : Hid (c_94 41 3 = e1) := (hF_96 41 3 (fun h => absurd h.2 (ni rfl))).trans (hid kn_89)
          refine v_gi (z := 3) (v := e1) c_162_10 kf_8_111 rfl (Nat.le_of_ble_eq_true rfl) rfl rfl (hid kn_98) (v_ic_ge_f (t := 20) c_162_13 rfl ⟨by first | exact q_378c2316e h_16 ha | omega, by first | exact q_d17d18138 h_24 | omega, (Int.le_trans (rg_eq hg_e1 h_1).2 (by decide))⟩ (q_iconst c_162_16 (q_goto (t := 21) c_162_17 rfl (v_zret c_162_21 rfl (by decide) (bk_inl (v_if_eq_f (t := 134) c_207_53 rfl (by decide) (q_aload_n c_207_56 rfl ?_)))))))
          refine v_gi (z := 4) (v := (nx F e1 a)) c_207_57 kf_8_108 rfl (Nat.le_of_ble_eq_true rfl) rfl rfl (h_97) (q_istore_n c_207_60 (Nat.le_of_ble_eq_true rfl) (q_aload_n c_207_61 rfl (q_iconst c_207_62 (q_iconst c_207_63 ?_))))
          have kn_99 : Hid (c_54 1 1 = e1) := (hF_56 1 1 (fun h => absurd h.2 (ni rfl))).trans (hid kn_23)
          have h_100 : c_54 1 4 = 0 := (hid kn_59)
          have h_101 : c_54 1 2 = (nx F e1 a) := (hz_57)
          have kn_102 : Hid (c_19 1 5 = (-1)) := (hF_21 1 5 (fun h => absurd h.2 (ni rfl))).trans (hc_2)
          have kn_103 : Hid (c_54 1 5 = (-1)) := (hF_56 1 5 (fun h => absurd h.2 (ni rfl))).trans (hid kn_102)
          have h_104 : c_54 1 5 = (-1) := (hid kn_103)
          have kn_105 : Hid (c_94 41 5 = (-1)) := (hF_96 41 5 (fun h => absurd h.2 (ni rfl))).trans (hc_1)
          have h_106 : c_94 41 5 = (-1) := (hid kn_105)
          have h_107 : c_94 41 4 = (nx F e1 a) := (h_97)
          have h_108 := ir_41_6 hI2
          have kn_109 : Hid (c_94 41 6 = c2 41 6) := hF_96 41 6 (fun h => absurd h.2 (ni rfl))
          have h_110 : c_94 41 6 = c2 41 6 := (hid kn_109)
          refine v_cv c_207_64 km_8_199 rfl rfl (Nat.le_of_ble_eq_true rfl) ⟨⟨rfl, rfl⟩, Nat.le_of_ble_eq_true rfl, rfl⟩ (Nat.le_of_ble_eq_true rfl) (Nat.le_of_ble_eq_true rfl) (L_8 (m := c_54) (a2 := 3) (yg := y_63) (e1 := e1) (a9 := (nx F e1 a)) (f0 := 0) (F := F) (H := H) hI_95 hI_55 hI_61 (show (-1) ≤ 3 ∧ 3 ≤ 9999 from ⟨by decide, by decide⟩) ⟨(Int.le_trans (by decide) hy_63.1), (Int.le_trans hy_63.2 (by decide))⟩ ((hid kn_99)) ((hid kn_98)) ((hz_57)) ((hid kn_59)) (fun j => ((hF_56 2 j (fun h => absurd h.1 (nn rfl))).trans ((hF_21 2 j (fun h => absurd h.1 (nn rfl))).trans (hFm 2 j (qn_870496478 hA)))).trans (hF j)) (fun j => ((hF_96 43 j (fun h => absurd h.1 (nn rfl))).trans (hFc 43 j qn_a54ac4a59)).trans (hH j)) hU (rt_i1 ⟨by first | assumption | omega, by first | assumption | omega, by first | assumption | omega, by first | assumption | omega⟩) hG_65 (fun c_111 y_114 hI_112 hF_113 hy_114 hR_115 h_116 h_117 h_118 h_119 => (bk_inl ?_)))
          have hs_120 := h_116.symm
          subst hs_120
          have h_121 := ir_1_2 hI_61
          refine q_istore c_207_67 (Nat.le_of_ble_eq_true rfl) (q_aload_n c_207_69 rfl (v_cv c_207_70 km_8_131 rfl rfl (Nat.le_of_ble_eq_true rfl) ⟨⟨rfl, rfl⟩, Nat.le_of_ble_eq_true rfl, rfl⟩ (Nat.le_of_ble_eq_true rfl) (Nat.le_of_ble_eq_true rfl) (q_aload_n c_152_0 rfl ?_)))
          have h_122 := ir_41_5 hI_112
          have h_123 := ir_1_5 hI_61
          have h_124 := ir_41_4 hI_112
          have h_125 := ir_41_6 hI_112
          have h_126 := rt_or hR_115
          refine v_gi (z := 5) (v := c_111 41 5) c_152_1 kf_8_102 rfl (Nat.le_of_ble_eq_true rfl) rfl rfl rfl (q_iconst c_152_4 ?_)
          by_cases h_127 : c_111 41 5 ≠ (-1)
          · refine v_ic_ne_t (t := 12) c_152_5 rfl ⟨h_127, ⟨(Int.le_trans (by decide) h_122.1), (Int.le_trans h_122.2 (by decide))⟩, by decide, by decide⟩ (q_iconst c_152_12 (v_zret c_152_13 rfl (by decide) (bk_inl (v_if_eq_t (t := 93) c_207_73 rfl (by decide) (q_aload_n c_207_93 rfl (q_iconst c_207_94 (v_sip c_207_95 (by decide) ?_)))))))
            have kn_128 : Hid (c_60 1 1 = e1) := (hF_62 1 1 qn_b782e6d88).trans (hid kn_99)
            have kn_129 : Hid (c_111 41 3 = e1) := (hF_113 41 3 qn_97fd72088).trans (hid kn_98)
            refine v_cv c_207_98 km_8_199 rfl rfl (Nat.le_of_ble_eq_true rfl) ⟨⟨rfl, rfl⟩, Nat.le_of_ble_eq_true rfl, rfl⟩ (Nat.le_of_ble_eq_true rfl) (Nat.le_of_ble_eq_true rfl) (L_8 (m := c_60) (a2 := 9999) (yg := y_77) (e1 := e1) (a9 := c_60 1 2) (f0 := c_60 1 4) (F := F) (H := H) hI_112 hI_61 hI_75 (show (-1) ≤ 9999 ∧ 9999 ≤ 9999 from ⟨by decide, by decide⟩) ⟨(Int.le_trans (by decide) hy_77.1), (Int.le_trans hy_77.2 (by decide))⟩ ((hid kn_128)) ((hid kn_129)) (rfl) (rfl) (fun j => ((hF_62 2 j qn_e2b123f84).trans ((hF_56 2 j (fun h => absurd h.1 (nn rfl))).trans ((hF_21 2 j (fun h => absurd h.1 (nn rfl))).trans (hFm 2 j (qn_870496478 hA))))).trans (hF j)) (fun j => ((hF_113 43 j qn_0f2179ecb).trans ((hF_96 43 j (fun h => absurd h.1 (nn rfl))).trans (hFc 43 j qn_a54ac4a59))).trans (hH j)) hU hR_115 hG_79 (fun c_130 y_133 hI_131 hF_132 hy_133 hR_134 h_135 h_136 h_137 h_138 => (bk_inl ?_)))
            have hs_139 := h_135.symm
            subst hs_139
            have h_140 := ir_1_2 hI_75
            refine q_istore c_207_101 (Nat.le_of_ble_eq_true rfl) (q_aload_n c_207_103 rfl (v_bip c_207_104 (by decide) ?_))
            have kn_141 : Hid (c_74 1 1 = e1) := (hF_76 1 1 qn_b782e6d88).trans (hid kn_128)
            have kn_142 : Hid (c_130 41 3 = e1) := (hF_132 41 3 qn_97fd72088).trans (hid kn_129)
            refine v_cv c_207_106 km_8_229 rfl rfl (Nat.le_of_ble_eq_true rfl) ⟨⟨rfl, rfl⟩, Nat.le_of_ble_eq_true rfl, rfl⟩ (Nat.le_of_ble_eq_true rfl) (Nat.le_of_ble_eq_true rfl) (L_11_9 (m := up c_74 (A + 5) y_63 y_77) (e1 := e1) (a9 := c_74 1 2) (f0 := c_74 1 4) (F := F) (H := H) hI_131 hI_81 hI_83 (((up_c (pn hA rfl rfl)).trans (hid kn_141))) ((hid kn_142)) ((up_c (pn hA rfl rfl))) ((up_c (pn hA rfl rfl))) (fun j => ((up_c (pn hA rfl rfl)).trans ((hF_76 2 j qn_e2b123f84).trans ((hF_62 2 j qn_e2b123f84).trans ((hF_56 2 j (fun h => absurd h.1 (nn rfl))).trans ((hF_21 2 j (fun h => absurd h.1 (nn rfl))).trans (hFm 2 j (qn_870496478 hA))))))).trans (hF j)) (fun j => ((hF_132 43 j qn_0f2179ecb).trans ((hF_113 43 j qn_0f2179ecb).trans ((hF_96 43 j (fun h => absurd h.1 (nn rfl))).trans (hFc 43 j qn_a54ac4a59)))).trans (hH j)) hU (rt_fr hR_134 (up_c (pn hA rfl rfl)) (up_c (pn hA rfl rfl)) (up_c (pn hA rfl rfl)) (rfl) (rfl) (rfl)) hG_85 (fun c_143 hI_144 hF_145 hR_147 h_148 h_149 => (bk_inl ?_)))
            have h_150 := ir_1_2 hI_83
            refine q_aload_n c_207_109 rfl (v_cv c_207_110 km_8_131 rfl rfl (Nat.le_of_ble_eq_true rfl) ⟨⟨rfl, rfl⟩, Nat.le_of_ble_eq_true rfl, rfl⟩ (Nat.le_of_ble_eq_true rfl) (Nat.le_of_ble_eq_true rfl) (q_aload_n c_152_0 rfl ?_))
            have h_151 := ir_41_5 hI_144
            have h_152 := ir_1_5 hI_83
            have h_153 := ir_41_4 hI_144
            have h_154 := ir_41_6 hI_144
            have h_155 := rt_ok hR_147 (by first | exact q_f6b658f58 h_86 h_87 | omega)
            have hro_hR_147 := rt_ok hR_147 (by first | exact q_f6b658f58 h_86 h_87 | omega)
            refine v_gi (z := 5) (v := (-1)) c_152_1 kf_8_102 rfl (Nat.le_of_ble_eq_true rfl) rfl rfl hro_hR_147.2.1 (q_iconst c_152_4 (v_ic_ne_f (t := 12) c_152_5 rfl (by decide) (q_iconst c_152_8 (q_goto (t := 13) c_152_9 rfl (v_zret c_152_13 rfl (by decide) (bk_inl (v_if_ne_t (t := 119) c_207_113 rfl (by decide) ?_)))))))
            refine q_aload_n c_207_119 rfl (v_gr (t := 63) c_207_120 kf_8_80 rfl (Nat.le_of_ble_eq_true rfl) rfl (q_iload c_207_123 rfl (q_iload c_207_125 rfl (v_is c_207_127 rfl (by decide) (by decide) ⟨hy_63.1, by first | exact q_51d464dd6 h_64 | omega⟩ (v_iinc (v := v + 1) c_207_128 rfl (Nat.le_of_ble_eq_true rfl) rfl (q_goto (t := 42) c_207_131 rfl ?_))))))
            have hI_156 := iw_63 (j := y_63) (v := y_77) hI_144 ⟨(Int.le_trans (by decide) hy_77.1), hy_77.2⟩
            refine Wp_ls [(0, .ref 41), (1, vi a1), (2, vi (v + 1))] (lsub_cons rfl (lsub_cons rfl (lsub_cons rfl lsub_nil))) ?_
            have h_157 : cnt (c_82 (A + 5)) = cnt (m2 (A + 5)) + 1 := cnt_w (i := y_63) (v := y_77) (by omega) (by omega) ((show _ = m2 (A + 5) y_63 from rfl).trans (by omega)) ((hF_84 (A + 5) y_63 (qn_31b6b4c08 hA)).trans (up_e rfl)) (by omega) (fun j hj => (hF_84 (A + 5) j (qn_31b6b4c08 hA)).trans ((up_n hj).trans ((hF_76 (A + 5) j (qn_31b6b4c08 hA)).trans ((hF_62 (A + 5) j (qn_31b6b4c08 hA)).trans ((hF_56 (A + 5) j (fun h => absurd h.1 (np hA rfl rfl))).trans (hF_21 (A + 5) j (fun h => absurd h.1 (np hA rfl rfl))))))))
            have hA_158 : Ae 5 (c_82 (A + 5)) ((up c_143 63 y_63 y_77) 63) := ae_w (i := y_63) (v := y_77) hrl0 (by omega) ((hF_84 (A + 5) y_63 (qn_31b6b4c08 hA)).trans (up_e rfl)) (up_e rfl) (fun j hj => (hF_84 (A + 5) j (qn_31b6b4c08 hA)).trans ((up_n hj).trans ((hF_76 (A + 5) j (qn_31b6b4c08 hA)).trans ((hF_62 (A + 5) j (qn_31b6b4c08 hA)).trans ((hF_56 (A + 5) j (fun h => absurd h.1 (np hA rfl rfl))).trans (hF_21 (A + 5) j (fun h => absurd h.1 (np hA rfl rfl)))))))) (fun j hj => (up_n hj).trans ((hF_145 63 j qn_518a05c1b).trans ((hF_132 63 j qn_518a05c1b).trans ((hF_113 63 j qn_518a05c1b).trans (hF_96 63 j (fun h => absurd h.1 (nn rfl)))))))
            have hA_159 : Ae 4 (c_82 (A + 5)) ((up c_143 63 y_63 y_77) 63) := ae_le hA_158 (by omega)
            exact ih (up c_143 63 y_63 y_77) c_82 (v + 1) (v + 1) (c_82 1 2) hI_156 (fun a j hm => (up_b (Decidable.or_iff_not_imp_left.mpr (fun h1 h2 => hm (Or.inr (Or.inr (Or.inr (Decidable.not_not.mp h1))))))).trans ((hF_145 a j (qv_89aead39f hm)).trans ((hF_132 a j (qv_89aead39f hm)).trans ((hF_113 a j (qv_89aead39f hm)).trans ((hF_96 a j (fun h => hm (Or.inl h))).trans (hFc a j hm)))))) hI_83 (fun a j hm => (hF_84 a j (qv_88b270b28 hm)).trans ((up_b (Decidable.or_iff_not_imp_left.mpr (fun h1 h2 => hm (Or.inr (Or.inr (Or.inr (Or.inr (Or.inl (Decidable.not_not.mp h1))))))))).trans ((hF_76 a j (qv_88b270b28 hm)).trans ((hF_62 a j (qv_88b270b28 hm)).trans ((hF_56 a j (fun h => hm (Or.inl h))).trans ((hF_21 a j (fun h => hm (Or.inl h))).trans (hFm a j hm))))))) ⟨by first | exact rgp_l hv.1 (by decide) | omega, by first | (clear ha1 hq0 hq1 hq2 hq3 hq4 hq5 hv hrd ha h_1 hg_e1 h_2 hr_e1 h_3 hg_f0 h_4 hg_g0 h_5 hr_z0 h_6 hr_z1 h_7 hr_z2 h_8 hr_z3 h_9 hg_a h_10 hr_a h_11 hc_0 h_12 hc_1 h_13 hc_2 hx0 h_15 h_16 h_17 h_24 h_73 h_80 h_86 h_87 h_90 h_91 h_93 h_108 h_121 h_122 h_123 h_124 h_125 h_140 h_150 h_151 h_152 h_153 h_154 h_155 h_18 h_64 h_78 h_92 h_117 h_118 h_119 h_126 h_127 h_136 h_137 h_138 h_148 h_149; omega) | omega⟩ ⟨by first | exact rgp_l hv.1 (by decide) | omega, by first | exact rgp_h hv.2 (by decide) | omega⟩ h_150 (rfl) ((((up_c (nn rfl))).trans (hro_hR_147.2.2.1))) ((show _ = c_82 1 4 from rfl).trans (by first | assumption | exact Int.le_antisymm (by first | exact q_d1e538aa4 h_87 | omega) (by first | exact q_eb3a7ad7a h_86 | omega))) ((((up_c (nn rfl))).trans (hro_hR_147.2.1))) ((show _ = c_82 1 5 from rfl).trans (by first | assumption | exact Int.le_antisymm (by first | exact q_10f95419d h_155 | omega) (by first | exact q_3d8b3e7e9 h_152 | omega))) (by first | exact q_e99da1485 | omega) (by omega) (ae_le hA_159 (by omega)) hG_88 (by omega)
          · refine v_ic_ne_f (t := 12) c_152_5 rfl (Decidable.not_not.mp h_127) (q_iconst c_152_8 (q_goto (t := 13) c_152_9 rfl (v_zret c_152_13 rfl (by decide) (bk_inl (v_if_eq_f (t := 93) c_207_73 rfl (by decide) (q_aload_n c_207_76 rfl (v_gr (t := 63) c_207_77 kf_8_80 rfl (Nat.le_of_ble_eq_true rfl) rfl ?_)))))))
            refine q_iload c_207_80 rfl ?_
            have h_160 := ir_63 hI2 y_63
            have h_161 : m2 (A + 5) y_63 = c2 63 y_63 := ae_rd hrl0 (by omega) (by omega)
            have kn_162 : Hid (c_94 63 y_63 = c2 63 y_63) := hF_96 63 y_63 (fun h => absurd h.1 (nn rfl))
            have kn_163 : Hid (c_111 63 y_63 = c2 63 y_63) := (hF_113 63 y_63 qn_518a05c1b).trans (hid kn_162)
            refine v_ia (v := c2 63 y_63) c_207_82 rfl (by decide) (by decide) ⟨hy_63.1, by first | exact q_51d464dd6 h_64 | omega⟩ (hid kn_163) (q_iconst c_207_83 (v_ic_eq_t (t := 93) c_207_84 rfl (by first | exact q_a370a780a h_160 h_161 h_72 | omega) (q_aload_n c_207_93 rfl (q_iconst c_207_94 (v_sip c_207_95 (by decide) ?_)))))
            have kn_164 : Hid (c_60 1 1 = e1) := (hF_62 1 1 qn_b782e6d88).trans (hid kn_99)
            have kn_165 : Hid (c_111 41 3 = e1) := (hF_113 41 3 qn_97fd72088).trans (hid kn_98)
            refine v_cv c_207_98 km_8_199 rfl rfl (Nat.le_of_ble_eq_true rfl) ⟨⟨rfl, rfl⟩, Nat.le_of_ble_eq_true rfl, rfl⟩ (Nat.le_of_ble_eq_true rfl) (Nat.le_of_ble_eq_true rfl) (L_8 (m := c_60) (a2 := 9999) (yg := y_77) (e1 := e1) (a9 := c_60 1 2) (f0 := c_60 1 4) (F := F) (H := H) hI_112 hI_61 hI_75 (show (-1) ≤ 9999 ∧ 9999 ≤ 9999 from ⟨by decide, by decide⟩) ⟨(Int.le_trans (by decide) hy_77.1), (Int.le_trans hy_77.2 (by decide))⟩ ((hid kn_164)) ((hid kn_165)) (rfl) (rfl) (fun j => ((hF_62 2 j qn_e2b123f84).trans ((hF_56 2 j (fun h => absurd h.1 (nn rfl))).trans ((hF_21 2 j (fun h => absurd h.1 (nn rfl))).trans (hFm 2 j (qn_870496478 hA))))).trans (hF j)) (fun j => ((hF_113 43 j qn_0f2179ecb).trans ((hF_96 43 j (fun h => absurd h.1 (nn rfl))).trans (hFc 43 j qn_a54ac4a59))).trans (hH j)) hU hR_115 hG_79 (fun c_166 y_169 hI_167 hF_168 hy_169 hR_170 h_171 h_172 h_173 h_174 => (bk_inl ?_)))
            have hs_175 := h_171.symm
            subst hs_175
            have h_176 := ir_1_2 hI_75
            refine q_istore c_207_101 (Nat.le_of_ble_eq_true rfl) (q_aload_n c_207_103 rfl (v_bip c_207_104 (by decide) ?_))
            have kn_177 : Hid (c_74 1 1 = e1) := (hF_76 1 1 qn_b782e6d88).trans (hid kn_164)
            have kn_178 : Hid (c_166 41 3 = e1) := (hF_168 41 3 qn_97fd72088).trans (hid kn_165)
            refine v_cv c_207_106 km_8_229 rfl rfl (Nat.le_of_ble_eq_true rfl) ⟨⟨rfl, rfl⟩, Nat.le_of_ble_eq_true rfl, rfl⟩ (Nat.le_of_ble_eq_true rfl) (Nat.le_of_ble_eq_true rfl) (L_11_9 (m := up c_74 (A + 5) y_63 y_77) (e1 := e1) (a9 := c_74 1 2) (f0 := c_74 1 4) (F := F) (H := H) hI_167 hI_81 hI_83 (((up_c (pn hA rfl rfl)).trans (hid kn_177))) ((hid kn_178)) ((up_c (pn hA rfl rfl))) ((up_c (pn hA rfl rfl))) (fun j => ((up_c (pn hA rfl rfl)).trans ((hF_76 2 j qn_e2b123f84).trans ((hF_62 2 j qn_e2b123f84).trans ((hF_56 2 j (fun h => absurd h.1 (nn rfl))).trans ((hF_21 2 j (fun h => absurd h.1 (nn rfl))).trans (hFm 2 j (qn_870496478 hA))))))).trans (hF j)) (fun j => ((hF_168 43 j qn_0f2179ecb).trans ((hF_113 43 j qn_0f2179ecb).trans ((hF_96 43 j (fun h => absurd h.1 (nn rfl))).trans (hFc 43 j qn_a54ac4a59)))).trans (hH j)) hU (rt_fr hR_170 (up_c (pn hA rfl rfl)) (up_c (pn hA rfl rfl)) (up_c (pn hA rfl rfl)) (rfl) (rfl) (rfl)) hG_85 (fun c_179 hI_180 hF_181 hR_183 h_184 h_185 => (bk_inl ?_)))
            have h_186 := ir_1_2 hI_83
            refine q_aload_n c_207_109 rfl (v_cv c_207_110 km_8_131 rfl rfl (Nat.le_of_ble_eq_true rfl) ⟨⟨rfl, rfl⟩, Nat.le_of_ble_eq_true rfl, rfl⟩ (Nat.le_of_ble_eq_true rfl) (Nat.le_of_ble_eq_true rfl) (q_aload_n c_152_0 rfl ?_))
            have h_187 := ir_41_5 hI_180
            have h_188 := ir_1_5 hI_83
            have h_189 := ir_41_4 hI_180
            have h_190 := ir_41_6 hI_180
            have h_191 := rt_ok hR_183 (by first | exact q_f6b658f58 h_86 h_87 | omega)
            have hro_hR_183 := rt_ok hR_183 (by first | exact q_f6b658f58 h_86 h_87 | omega)
            refine v_gi (z := 5) (v := (-1)) c_152_1 kf_8_102 rfl (Nat.le_of_ble_eq_true rfl) rfl rfl hro_hR_183.2.1 (q_iconst c_152_4 (v_ic_ne_f (t := 12) c_152_5 rfl (by decide) (q_iconst c_152_8 (q_goto (t := 13) c_152_9 rfl (v_zret c_152_13 rfl (by decide) (bk_inl (v_if_ne_t (t := 119) c_207_113 rfl (by decide) ?_)))))))
            refine q_aload_n c_207_119 rfl (v_gr (t := 63) c_207_120 kf_8_80 rfl (Nat.le_of_ble_eq_true rfl) rfl (q_iload c_207_123 rfl (q_iload c_207_125 rfl (v_is c_207_127 rfl (by decide) (by decide) ⟨hy_63.1, by first | exact q_51d464dd6 h_64 | omega⟩ (v_iinc (v := v + 1) c_207_128 rfl (Nat.le_of_ble_eq_true rfl) rfl (q_goto (t := 42) c_207_131 rfl ?_))))))
            have hI_192 := iw_63 (j := y_63) (v := y_77) hI_180 ⟨(Int.le_trans (by decide) hy_77.1), hy_77.2⟩
            refine Wp_ls [(0, .ref 41), (1, vi a1), (2, vi (v + 1))] (lsub_cons rfl (lsub_cons rfl (lsub_cons rfl lsub_nil))) ?_
            have h_193 : cnt (c_82 (A + 5)) = cnt (m2 (A + 5)) + 1 := cnt_w (i := y_63) (v := y_77) (by omega) (by omega) ((show _ = m2 (A + 5) y_63 from rfl).trans (by omega)) ((hF_84 (A + 5) y_63 (qn_31b6b4c08 hA)).trans (up_e rfl)) (by omega) (fun j hj => (hF_84 (A + 5) j (qn_31b6b4c08 hA)).trans ((up_n hj).trans ((hF_76 (A + 5) j (qn_31b6b4c08 hA)).trans ((hF_62 (A + 5) j (qn_31b6b4c08 hA)).trans ((hF_56 (A + 5) j (fun h => absurd h.1 (np hA rfl rfl))).trans (hF_21 (A + 5) j (fun h => absurd h.1 (np hA rfl rfl))))))))
            have hA_194 : Ae 4 (c_82 (A + 5)) ((up c_179 63 y_63 y_77) 63) := ae_w (i := y_63) (v := y_77) hrl0 (by omega) ((hF_84 (A + 5) y_63 (qn_31b6b4c08 hA)).trans (up_e rfl)) (up_e rfl) (fun j hj => (hF_84 (A + 5) j (qn_31b6b4c08 hA)).trans ((up_n hj).trans ((hF_76 (A + 5) j (qn_31b6b4c08 hA)).trans ((hF_62 (A + 5) j (qn_31b6b4c08 hA)).trans ((hF_56 (A + 5) j (fun h => absurd h.1 (np hA rfl rfl))).trans (hF_21 (A + 5) j (fun h => absurd h.1 (np hA rfl rfl)))))))) (fun j hj => (up_n hj).trans ((hF_181 63 j qn_518a05c1b).trans ((hF_168 63 j qn_518a05c1b).trans ((hF_113 63 j qn_518a05c1b).trans (hF_96 63 j (fun h => absurd h.1 (nn rfl)))))))
            exact ih (up c_179 63 y_63 y_77) c_82 (v + 1) (v + 1) (c_82 1 2) hI_192 (fun a j hm => (up_b (Decidable.or_iff_not_imp_left.mpr (fun h1 h2 => hm (Or.inr (Or.inr (Or.inr (Decidable.not_not.mp h1))))))).trans ((hF_181 a j (qv_89aead39f hm)).trans ((hF_168 a j (qv_89aead39f hm)).trans ((hF_113 a j (qv_89aead39f hm)).trans ((hF_96 a j (fun h => hm (Or.inl h))).trans (hFc a j hm)))))) hI_83 (fun a j hm => (hF_84 a j (qv_88b270b28 hm)).trans ((up_b (Decidable.or_iff_not_imp_left.mpr (fun h1 h2 => hm (Or.inr (Or.inr (Or.inr (Or.inr (Or.inl (Decidable.not_not.mp h1))))))))).trans ((hF_76 a j (qv_88b270b28 hm)).trans ((hF_62 a j (qv_88b270b28 hm)).trans ((hF_56 a j (fun h => hm (Or.inl h))).trans ((hF_21 a j (fun h => hm (Or.inl h))).trans (hFm a j hm))))))) ⟨by first | exact rgp_l hv.1 (by decide) | omega, by first | (clear ha1 hq0 hq1 hq2 hq3 hq4 hq5 hv hrd ha h_1 hg_e1 h_2 hr_e1 h_3 hg_f0 h_4 hg_g0 h_5 hr_z0 h_6 hr_z1 h_7 hr_z2 h_8 hr_z3 h_9 hg_a h_10 hr_a h_11 hc_0 h_12 hc_1 h_13 hc_2 hx0 h_15 h_16 h_17 h_24 h_73 h_80 h_86 h_87 h_90 h_91 h_93 h_108 h_121 h_122 h_123 h_124 h_125 h_127 h_160 h_161 h_176 h_186 h_187 h_188 h_189 h_190 h_191 h_18 h_64 h_78 h_92 h_117 h_118 h_119 h_126 h_172 h_173 h_174 h_184 h_185; omega) | omega⟩ ⟨by first | exact rgp_l hv.1 (by decide) | omega, by first | exact rgp_h hv.2 (by decide) | omega⟩ h_186 (rfl) ((((up_c (nn rfl))).trans (hro_hR_183.2.2.1))) ((show _ = c_82 1 4 from rfl).trans (by first | assumption | exact Int.le_antisymm (by first | exact q_d1e538aa4 h_87 | omega) (by first | exact q_eb3a7ad7a h_86 | omega))) ((((up_c (nn rfl))).trans (hro_hR_183.2.1))) ((show _ = c_82 1 5 from rfl).trans (by first | assumption | exact Int.le_antisymm (by first | exact q_10f95419d h_191 | omega) (by first | exact q_3d8b3e7e9 h_188 | omega))) (by first | exact q_e99da1485 | omega) (by omega) (ae_le hA_194 (by omega)) hG_88 (by omega)
        · skip
          refine q_iload_n c_36_24 rfl (q_iconst c_36_25 (v_ic_gt_f (t := 97) c_36_26 rfl ⟨by first | exact rgp_l hv.1 (by decide) | omega, by first | (clear ha1 hq0 hq1 hq2 hq3 hq4 hq5 hv hrd ha h_1 hg_e1 h_2 hr_e1 h_3 hg_f0 h_4 hg_g0 h_5 hr_z0 h_6 hr_z1 h_7 hr_z2 h_8 hr_z3 h_9 hg_a h_10 hr_a h_11 hc_0 h_12 hc_1 h_13 hc_2 hx0 h_15 h_16 h_17 h_24 h_73 h_80 h_86 h_18 h_64 h_78 h_87; omega) | omega, by decide⟩ (q_aload_n c_36_29 rfl (v_cv c_36_30 km_2_44 rfl rfl (Nat.le_of_ble_eq_true rfl) ⟨⟨rfl, rfl⟩, Nat.le_of_ble_eq_true rfl, rfl⟩ (Nat.le_of_ble_eq_true rfl) (Nat.le_of_ble_eq_true rfl) (q_aload_n c_15_0 rfl (v_cv c_15_1 km_5_45 rfl rfl (Nat.le_of_ble_eq_true rfl) ⟨⟨rfl, rfl⟩, Nat.le_of_ble_eq_true rfl, rfl⟩ (Nat.le_of_ble_eq_true rfl) (Nat.le_of_ble_eq_true rfl) (q_aload_n c_2_0 rfl ?_)))))))
          refine v_gi (z := 4) (v := c_82 1 4) c_2_1 kf_5_38 rfl (Nat.le_of_ble_eq_true rfl) rfl rfl rfl (v_if_ne_t (t := 11) c_2_4 rfl ⟨by first | exact q_106d90f3b h_86 h_87 | omega, ⟨(Int.le_trans (by decide) h_86.1), (Int.le_trans h_86.2 (by decide))⟩, by decide, by decide⟩ (q_iconst c_2_11 (v_zret c_2_12 rfl (by decide) (bk_inl (v_if_eq_t (t := 22) c_15_4 rfl (by decide) (q_iconst c_15_22 (v_zret c_15_23 rfl (by decide) ?_)))))))
          refine bk_inl (v_if_eq_t (t := 97) c_36_33 rfl (by decide) (q_aload_n c_36_97 rfl (v_cv c_36_98 km_2_68 rfl rfl (Nat.le_of_ble_eq_true rfl) ⟨⟨rfl, rfl⟩, Nat.le_of_ble_eq_true rfl, rfl⟩ (Nat.le_of_ble_eq_true rfl) (Nat.le_of_ble_eq_true rfl) (q_aload_n c_2_0 rfl (v_gi (z := 4) (v := c_82 1 4) c_2_1 kf_5_38 rfl (Nat.le_of_ble_eq_true rfl) rfl rfl rfl (v_if_ne_t (t := 11) c_2_4 rfl ⟨by first | exact q_106d90f3b h_86 h_87 | omega, ⟨(Int.le_trans (by decide) h_86.1), (Int.le_trans h_86.2 (by decide))⟩, by decide, by decide⟩ (q_iconst c_2_11 ?_)))))))
          refine v_zret c_2_12 rfl (by decide) (bk_inl (v_if_eq_t (t := 123) c_36_101 rfl (by decide) (q_vret rfl rfl ?_)))
          intro hE_195
          have hW : Wd P Q P P c_82 = Wd P Q P P m9 := (Prod.mk.inj (Prod.mk.inj hE_195).2).1
          have h_196 := ir_1_4 hJ9
          have h_197 : m9 1 4 = c_82 1 4 := wd_fv (z := 4) 4 rfl hW rfl rfl rfl rfl (by decide) rfl ⟨(Int.le_trans (by decide) h_86.1), (Int.le_trans h_86.2 (by decide))⟩ ⟨(Int.le_trans (by decide) h_196.1), (Int.le_trans h_196.2 (by decide))⟩
          have h_198 := ir_1_2 hI_83
          have h_199 := ir_1_2 hJ9
          have h_200 : m9 1 2 = c_82 1 2 := wd_fv (z := 2) 2 rfl hW rfl rfl rfl rfl (by decide) rfl ⟨(Int.le_trans (by decide) h_198.1), (Int.le_trans h_198.2 (by decide))⟩ ⟨(Int.le_trans (by decide) h_199.1), (Int.le_trans h_199.2 (by decide))⟩
          have h_201 := ir_1_5 hI_83
          have h_202 := ir_1_5 hJ9
          have h_203 : m9 1 5 = c_82 1 5 := wd_fv (z := 5) 5 rfl hW rfl rfl rfl rfl (by decide) rfl ⟨(Int.le_trans (by decide) h_201.1), (Int.le_trans h_201.2 (by decide))⟩ ⟨(Int.le_trans (by decide) h_202.1), (Int.le_trans h_202.2 (by decide))⟩
          have h_204 := ir_p0_5 hJ2 hA
          have kn_205 : Hid (c_19 A 5 = m2 A 5) := hF_21 A 5 (fun h => absurd h.1 (np0 hA rfl))
          have kn_206 : Hid (c_54 A 5 = m2 A 5) := (hF_56 A 5 (fun h => absurd h.1 (np0 hA rfl))).trans (hid kn_205)
          have kn_207 : Hid (c_60 A 5 = m2 A 5) := (hF_62 A 5 (qn_014d425e1 hA)).trans (hid kn_206)
          have kn_208 : Hid (c_74 A 5 = m2 A 5) := (hF_76 A 5 (qn_014d425e1 hA)).trans (hid kn_207)
          have kn_209 : Hid (c_82 A 5 = m2 A 5) := (hF_84 A 5 (qn_014d425e1 hA)).trans ((up_c (p0p rfl)).trans (hid kn_208))
          have h_210 := ir_p0_5 hJ9 hA
          have h_211 : m9 A 5 = m2 A 5 := wd_fv (z := 5) 5 rfl hW (ck_p0 hA) (ck_p0 hA) rfl rfl (a68z hA) (hid kn_209) ⟨by first | exact q_1bf3b20be h_204 | omega, by first | exact q_1fdab22f2 h_204 | omega⟩ ⟨(Int.le_trans (by decide) h_210.1), (Int.le_trans h_210.2 (by decide))⟩
          refine q_aload_n c_207_42 rfl (v_cv c_207_43 km_8_131 rfl rfl (Nat.le_of_ble_eq_true rfl) ⟨⟨rfl, rfl⟩, Nat.le_of_ble_eq_true rfl, rfl⟩ (Nat.le_of_ble_eq_true rfl) (Nat.le_of_ble_eq_true rfl) (q_aload_n c_152_0 rfl (v_gi (z := 5) (v := (-1)) c_152_1 kf_8_102 rfl (Nat.le_of_ble_eq_true rfl) rfl rfl (hc_1) (q_iconst c_152_4 (v_ic_ne_f (t := 12) c_152_5 rfl (by decide) (q_iconst c_152_8 (q_goto (t := 13) c_152_9 rfl ?_)))))))
          refine v_zret c_152_13 rfl (by decide) (bk_inl (v_if_eq_f (t := 134) c_207_46 rfl (by decide) (q_aload_n c_207_49 rfl (v_cv c_207_50 km_8_211 rfl rfl (Nat.le_of_ble_eq_true rfl) ⟨⟨rfl, rfl⟩, Nat.le_of_ble_eq_true rfl, rfl⟩ (Nat.le_of_ble_eq_true rfl) (Nat.le_of_ble_eq_true rfl) (q_aload_n c_162_0 rfl ?_)))))
          have kn_212 : Hid (c2 41 3 = e1) := (hFc 41 3 qn_bb859264f).trans (hr_e1)
          have h_213 : -2147483648 ≤ (H (nx F e1 a)) ∧ (H (nx F e1 a)) ≤ 2147483647 := by rw [← hH (nx F e1 a)]; exact ir_43 hI (nx F e1 a)
          have h_214 := hU (nx F e1 a) (by first | exact q_a7eda21a5 h_16 ha | omega) (by first | exact q_6c5402073 h_2 h_24 hr_e1 | omega)
          have h_215 := hb_or (b := H) (e := e1) (r := (nx F e1 a))
          have h_216 := hb_bd (b := H) (e := e1) (r := (nx F e1 a)) (lo := -2147483648) (hi := 2147483647) h_213 (by decide)
          refine v_cv c_162_1 km_8_114 rfl rfl (Nat.le_of_ble_eq_true rfl) ⟨⟨rfl, rfl⟩, Nat.le_of_ble_eq_true rfl, rfl⟩ (Nat.le_of_ble_eq_true rfl) (Nat.le_of_ble_eq_true rfl) (f_154 (e1 := e1) (a9 := a) (B := H) (r8 := (nx F e1 a)) (r := (hb H e1 (nx F e1 a))) hI2 ((hid kn_212)) ((hr_a)) (fun j => (hFc 43 j qn_a54ac4a59).trans (hH j)) ((nx_tr hU (ha.1) ((rg_eq hg_e1 h_1).2)).trans (rfl)) rfl (fun c_217 hI_218 hF_219 h_220 => (bk_inl (q_pop c_162_4 rfl (q_aload_n c_162_5 rfl (v_gi (z := 4) (v := (nx F e1 a)) c_162_6 kf_8_108 rfl (Nat.le_of_ble_eq_true rfl) rfl rfl (h_220) (q_aload_n c_162_9 rfl ?_)))))))
          have kn_221 : Hid (c_217 41 3 = e1) := (hF_219 41 3 (fun h => absurd h.2 (ni rfl))).trans (hid kn_212)
          refine v_gi (z := 3) (v := e1) c_162_10 kf_8_111 rfl (Nat.le_of_ble_eq_true rfl) rfl rfl (hid kn_221) (v_ic_ge_f (t := 20) c_162_13 rfl ⟨by first | exact q_378c2316e h_16 ha | omega, by first | exact q_d17d18138 h_24 | omega, (Int.le_trans (rg_eq hg_e1 h_1).2 (by decide))⟩ (q_iconst c_162_16 (q_goto (t := 21) c_162_17 rfl (v_zret c_162_21 rfl (by decide) (bk_inl (v_if_eq_f (t := 134) c_207_53 rfl (by decide) (q_aload_n c_207_56 rfl ?_)))))))
          refine v_gi (z := 4) (v := (nx F e1 a)) c_207_57 kf_8_108 rfl (Nat.le_of_ble_eq_true rfl) rfl rfl (h_220) (q_istore_n c_207_60 (Nat.le_of_ble_eq_true rfl) (q_aload_n c_207_61 rfl (q_iconst c_207_62 (q_iconst c_207_63 ?_))))
          have kn_222 : Hid (c_54 1 1 = e1) := (hF_56 1 1 (fun h => absurd h.2 (ni rfl))).trans (hid kn_23)
          have h_223 : c_54 1 4 = 0 := (hid kn_59)
          have h_224 : c_54 1 2 = (nx F e1 a) := (hz_57)
          have kn_225 : Hid (c_19 1 5 = (-1)) := (hF_21 1 5 (fun h => absurd h.2 (ni rfl))).trans (hc_2)
          have kn_226 : Hid (c_54 1 5 = (-1)) := (hF_56 1 5 (fun h => absurd h.2 (ni rfl))).trans (hid kn_225)
          have h_227 : c_54 1 5 = (-1) := (hid kn_226)
          have kn_228 : Hid (c_217 41 5 = (-1)) := (hF_219 41 5 (fun h => absurd h.2 (ni rfl))).trans (hc_1)
          have h_229 : c_217 41 5 = (-1) := (hid kn_228)
          have h_230 : c_217 41 4 = (nx F e1 a) := (h_220)
          have h_231 := ir_41_6 hI2
          have kn_232 : Hid (c_217 41 6 = c2 41 6) := hF_219 41 6 (fun h => absurd h.2 (ni rfl))
          have h_233 : c_217 41 6 = c2 41 6 := (hid kn_232)
          refine v_cv c_207_64 km_8_199 rfl rfl (Nat.le_of_ble_eq_true rfl) ⟨⟨rfl, rfl⟩, Nat.le_of_ble_eq_true rfl, rfl⟩ (Nat.le_of_ble_eq_true rfl) (Nat.le_of_ble_eq_true rfl) (L_8 (m := c_54) (a2 := 3) (yg := y_63) (e1 := e1) (a9 := (nx F e1 a)) (f0 := 0) (F := F) (H := H) hI_218 hI_55 hI_61 (show (-1) ≤ 3 ∧ 3 ≤ 9999 from ⟨by decide, by decide⟩) ⟨(Int.le_trans (by decide) hy_63.1), (Int.le_trans hy_63.2 (by decide))⟩ ((hid kn_222)) ((hid kn_221)) ((hz_57)) ((hid kn_59)) (fun j => ((hF_56 2 j (fun h => absurd h.1 (nn rfl))).trans ((hF_21 2 j (fun h => absurd h.1 (nn rfl))).trans (hFm 2 j (qn_870496478 hA)))).trans (hF j)) (fun j => ((hF_219 43 j (fun h => absurd h.1 (nn rfl))).trans (hFc 43 j qn_a54ac4a59)).trans (hH j)) hU (rt_i1 ⟨by first | assumption | omega, by first | assumption | omega, by first | assumption | omega, by first | assumption | omega⟩) hG_65 (fun c_234 y_237 hI_235 hF_236 hy_237 hR_238 h_239 h_240 h_241 h_242 => (bk_inl ?_)))
          have hs_243 := h_239.symm
          subst hs_243
          have h_244 := ir_1_2 hI_61
          refine q_istore c_207_67 (Nat.le_of_ble_eq_true rfl) (q_aload_n c_207_69 rfl (v_cv c_207_70 km_8_131 rfl rfl (Nat.le_of_ble_eq_true rfl) ⟨⟨rfl, rfl⟩, Nat.le_of_ble_eq_true rfl, rfl⟩ (Nat.le_of_ble_eq_true rfl) (Nat.le_of_ble_eq_true rfl) (q_aload_n c_152_0 rfl ?_)))
          have h_245 := ir_41_5 hI_235
          have h_246 := ir_1_5 hI_61
          have h_247 := ir_41_4 hI_235
          have h_248 := ir_41_6 hI_235
          have h_249 := rt_or hR_238
          refine v_gi (z := 5) (v := c_234 41 5) c_152_1 kf_8_102 rfl (Nat.le_of_ble_eq_true rfl) rfl rfl rfl (q_iconst c_152_4 ?_)
          by_cases h_250 : c_234 41 5 ≠ (-1)
          · refine v_ic_ne_t (t := 12) c_152_5 rfl ⟨h_250, ⟨(Int.le_trans (by decide) h_245.1), (Int.le_trans h_245.2 (by decide))⟩, by decide, by decide⟩ (q_iconst c_152_12 (v_zret c_152_13 rfl (by decide) (bk_inl (v_if_eq_t (t := 93) c_207_73 rfl (by decide) (q_aload_n c_207_93 rfl (q_iconst c_207_94 (v_sip c_207_95 (by decide) ?_)))))))
            have kn_251 : Hid (c_60 1 1 = e1) := (hF_62 1 1 qn_b782e6d88).trans (hid kn_222)
            have kn_252 : Hid (c_234 41 3 = e1) := (hF_236 41 3 qn_97fd72088).trans (hid kn_221)
            refine v_cv c_207_98 km_8_199 rfl rfl (Nat.le_of_ble_eq_true rfl) ⟨⟨rfl, rfl⟩, Nat.le_of_ble_eq_true rfl, rfl⟩ (Nat.le_of_ble_eq_true rfl) (Nat.le_of_ble_eq_true rfl) (L_8 (m := c_60) (a2 := 9999) (yg := y_77) (e1 := e1) (a9 := c_60 1 2) (f0 := c_60 1 4) (F := F) (H := H) hI_235 hI_61 hI_75 (show (-1) ≤ 9999 ∧ 9999 ≤ 9999 from ⟨by decide, by decide⟩) ⟨(Int.le_trans (by decide) hy_77.1), (Int.le_trans hy_77.2 (by decide))⟩ ((hid kn_251)) ((hid kn_252)) (rfl) (rfl) (fun j => ((hF_62 2 j qn_e2b123f84).trans ((hF_56 2 j (fun h => absurd h.1 (nn rfl))).trans ((hF_21 2 j (fun h => absurd h.1 (nn rfl))).trans (hFm 2 j (qn_870496478 hA))))).trans (hF j)) (fun j => ((hF_236 43 j qn_0f2179ecb).trans ((hF_219 43 j (fun h => absurd h.1 (nn rfl))).trans (hFc 43 j qn_a54ac4a59))).trans (hH j)) hU hR_238 hG_79 (fun c_253 y_256 hI_254 hF_255 hy_256 hR_257 h_258 h_259 h_260 h_261 => (bk_inl ?_)))
            have hs_262 := h_258.symm
            subst hs_262
            have h_263 := ir_1_2 hI_75
            refine q_istore c_207_101 (Nat.le_of_ble_eq_true rfl) (q_aload_n c_207_103 rfl (v_bip c_207_104 (by decide) ?_))
            have kn_264 : Hid (c_74 1 1 = e1) := (hF_76 1 1 qn_b782e6d88).trans (hid kn_251)
            have kn_265 : Hid (c_253 41 3 = e1) := (hF_255 41 3 qn_97fd72088).trans (hid kn_252)
            refine v_cv c_207_106 km_8_229 rfl rfl (Nat.le_of_ble_eq_true rfl) ⟨⟨rfl, rfl⟩, Nat.le_of_ble_eq_true rfl, rfl⟩ (Nat.le_of_ble_eq_true rfl) (Nat.le_of_ble_eq_true rfl) (L_11_9 (m := up c_74 (A + 5) y_63 y_77) (e1 := e1) (a9 := c_74 1 2) (f0 := c_74 1 4) (F := F) (H := H) hI_254 hI_81 hI_83 (((up_c (pn hA rfl rfl)).trans (hid kn_264))) ((hid kn_265)) ((up_c (pn hA rfl rfl))) ((up_c (pn hA rfl rfl))) (fun j => ((up_c (pn hA rfl rfl)).trans ((hF_76 2 j qn_e2b123f84).trans ((hF_62 2 j qn_e2b123f84).trans ((hF_56 2 j (fun h => absurd h.1 (nn rfl))).trans ((hF_21 2 j (fun h => absurd h.1 (nn rfl))).trans (hFm 2 j (qn_870496478 hA))))))).trans (hF j)) (fun j => ((hF_255 43 j qn_0f2179ecb).trans ((hF_236 43 j qn_0f2179ecb).trans ((hF_219 43 j (fun h => absurd h.1 (nn rfl))).trans (hFc 43 j qn_a54ac4a59)))).trans (hH j)) hU (rt_fr hR_257 (up_c (pn hA rfl rfl)) (up_c (pn hA rfl rfl)) (up_c (pn hA rfl rfl)) (rfl) (rfl) (rfl)) hG_85 (fun c_266 hI_267 hF_268 hR_270 h_271 h_272 => (bk_inl (q_aload_n c_207_109 rfl (v_cv c_207_110 km_8_131 rfl rfl (Nat.le_of_ble_eq_true rfl) ⟨⟨rfl, rfl⟩, Nat.le_of_ble_eq_true rfl, rfl⟩ (Nat.le_of_ble_eq_true rfl) (Nat.le_of_ble_eq_true rfl) (q_aload_n c_152_0 rfl ?_))))))
            have h_273 := ir_41_5 hI_267
            have h_274 := ir_41_4 hI_267
            have h_275 := ir_41_6 hI_267
            have h_276 := rt_bad hR_270 (by first | exact q_106d90f3b h_86 h_87 | omega)
            have hrb_hR_270 := rt_bad hR_270 (by first | exact q_f7b7d720f h_276 | omega)
            refine v_gi (z := 5) (v := c_82 1 5) c_152_1 kf_8_102 rfl (Nat.le_of_ble_eq_true rfl) rfl rfl hrb_hR_270.2.1 (q_iconst c_152_4 (v_ic_ne_t (t := 12) c_152_5 rfl ⟨by first | exact q_0f78863d3 h_276 | omega, ⟨(Int.le_trans (by decide) h_201.1), (Int.le_trans h_201.2 (by decide))⟩, by decide, by decide⟩ (q_iconst c_152_12 (v_zret c_152_13 rfl (by decide) (bk_inl (v_if_ne_f (t := 119) c_207_113 rfl (by decide) (q_goto (t := 134) c_207_116 rfl ?_)))))))
            refine Wp_ls [(0, .ref 41), (1, vi a1), (2, vi v)] (lsub_cons rfl (lsub_cons rfl (lsub_cons rfl lsub_nil))) ?_
            have h_277 : c_266 41 5 = c_82 1 5 := hrb_hR_270.2.1
            have h_278 : c_266 41 6 = c_82 1 4 := hrb_hR_270.2.2.2
            exact K c_266 v hI_267 (fun a j hm => (hF_268 a j (qv_89aead39f hm)).trans ((hF_255 a j (qv_89aead39f hm)).trans ((hF_236 a j (qv_89aead39f hm)).trans ((hF_219 a j (fun h => hm (Or.inl h))).trans (hFc a j hm))))) ⟨by omega, by omega⟩ (rt_i2 ⟨⟨by first | exact q_c4ab36c8d h_197 h_276 | omega, by first | exact q_c99d6ea93 h_196 | omega⟩, by first | exact q_88dc5fb99 h_203 | omega, by first | exact q_cb71117a2 h_203 h_276 | omega, by first | exact q_88dc5fb99 h_197 | omega⟩) (Or.inr (Or.inl (by first | exact q_374cd1df9 h_197 h_276 | omega)))
          · refine v_ic_ne_f (t := 12) c_152_5 rfl (Decidable.not_not.mp h_250) (q_iconst c_152_8 (q_goto (t := 13) c_152_9 rfl (v_zret c_152_13 rfl (by decide) (bk_inl (v_if_eq_f (t := 93) c_207_73 rfl (by decide) (q_aload_n c_207_76 rfl (v_gr (t := 63) c_207_77 kf_8_80 rfl (Nat.le_of_ble_eq_true rfl) rfl ?_)))))))
            refine q_iload c_207_80 rfl ?_
            have h_279 := ir_63 hI2 y_63
            have h_280 : m2 (A + 5) y_63 = c2 63 y_63 := ae_rd hrl0 (by omega) (by omega)
            have kn_281 : Hid (c_217 63 y_63 = c2 63 y_63) := hF_219 63 y_63 (fun h => absurd h.1 (nn rfl))
            have kn_282 : Hid (c_234 63 y_63 = c2 63 y_63) := (hF_236 63 y_63 qn_518a05c1b).trans (hid kn_281)
            refine v_ia (v := c2 63 y_63) c_207_82 rfl (by decide) (by decide) ⟨hy_63.1, by first | exact q_51d464dd6 h_64 | omega⟩ (hid kn_282) (q_iconst c_207_83 (v_ic_eq_t (t := 93) c_207_84 rfl (by first | exact q_a370a780a h_279 h_280 h_72 | omega) (q_aload_n c_207_93 rfl (q_iconst c_207_94 (v_sip c_207_95 (by decide) ?_)))))
            have kn_283 : Hid (c_60 1 1 = e1) := (hF_62 1 1 qn_b782e6d88).trans (hid kn_222)
            have kn_284 : Hid (c_234 41 3 = e1) := (hF_236 41 3 qn_97fd72088).trans (hid kn_221)
            refine v_cv c_207_98 km_8_199 rfl rfl (Nat.le_of_ble_eq_true rfl) ⟨⟨rfl, rfl⟩, Nat.le_of_ble_eq_true rfl, rfl⟩ (Nat.le_of_ble_eq_true rfl) (Nat.le_of_ble_eq_true rfl) (L_8 (m := c_60) (a2 := 9999) (yg := y_77) (e1 := e1) (a9 := c_60 1 2) (f0 := c_60 1 4) (F := F) (H := H) hI_235 hI_61 hI_75 (show (-1) ≤ 9999 ∧ 9999 ≤ 9999 from ⟨by decide, by decide⟩) ⟨(Int.le_trans (by decide) hy_77.1), (Int.le_trans hy_77.2 (by decide))⟩ ((hid kn_283)) ((hid kn_284)) (rfl) (rfl) (fun j => ((hF_62 2 j qn_e2b123f84).trans ((hF_56 2 j (fun h => absurd h.1 (nn rfl))).trans ((hF_21 2 j (fun h => absurd h.1 (nn rfl))).trans (hFm 2 j (qn_870496478 hA))))).trans (hF j)) (fun j => ((hF_236 43 j qn_0f2179ecb).trans ((hF_219 43 j (fun h => absurd h.1 (nn rfl))).trans (hFc 43 j qn_a54ac4a59))).trans (hH j)) hU hR_238 hG_79 (fun c_285 y_288 hI_286 hF_287 hy_288 hR_289 h_290 h_291 h_292 h_293 => (bk_inl ?_)))
            have hs_294 := h_290.symm
            subst hs_294
            have h_295 := ir_1_2 hI_75
            refine q_istore c_207_101 (Nat.le_of_ble_eq_true rfl) (q_aload_n c_207_103 rfl (v_bip c_207_104 (by decide) ?_))
            have kn_296 : Hid (c_74 1 1 = e1) := (hF_76 1 1 qn_b782e6d88).trans (hid kn_283)
            have kn_297 : Hid (c_285 41 3 = e1) := (hF_287 41 3 qn_97fd72088).trans (hid kn_284)
            refine v_cv c_207_106 km_8_229 rfl rfl (Nat.le_of_ble_eq_true rfl) ⟨⟨rfl, rfl⟩, Nat.le_of_ble_eq_true rfl, rfl⟩ (Nat.le_of_ble_eq_true rfl) (Nat.le_of_ble_eq_true rfl) (L_11_9 (m := up c_74 (A + 5) y_63 y_77) (e1 := e1) (a9 := c_74 1 2) (f0 := c_74 1 4) (F := F) (H := H) hI_286 hI_81 hI_83 (((up_c (pn hA rfl rfl)).trans (hid kn_296))) ((hid kn_297)) ((up_c (pn hA rfl rfl))) ((up_c (pn hA rfl rfl))) (fun j => ((up_c (pn hA rfl rfl)).trans ((hF_76 2 j qn_e2b123f84).trans ((hF_62 2 j qn_e2b123f84).trans ((hF_56 2 j (fun h => absurd h.1 (nn rfl))).trans ((hF_21 2 j (fun h => absurd h.1 (nn rfl))).trans (hFm 2 j (qn_870496478 hA))))))).trans (hF j)) (fun j => ((hF_287 43 j qn_0f2179ecb).trans ((hF_236 43 j qn_0f2179ecb).trans ((hF_219 43 j (fun h => absurd h.1 (nn rfl))).trans (hFc 43 j qn_a54ac4a59)))).trans (hH j)) hU (rt_fr hR_289 (up_c (pn hA rfl rfl)) (up_c (pn hA rfl rfl)) (up_c (pn hA rfl rfl)) (rfl) (rfl) (rfl)) hG_85 (fun c_298 hI_299 hF_300 hR_302 h_303 h_304 => (bk_inl (q_aload_n c_207_109 rfl (v_cv c_207_110 km_8_131 rfl rfl (Nat.le_of_ble_eq_true rfl) ⟨⟨rfl, rfl⟩, Nat.le_of_ble_eq_true rfl, rfl⟩ (Nat.le_of_ble_eq_true rfl) (Nat.le_of_ble_eq_true rfl) (q_aload_n c_152_0 rfl ?_))))))
            have h_305 := ir_41_5 hI_299
            have h_306 := ir_41_4 hI_299
            have h_307 := ir_41_6 hI_299
            have h_308 := rt_bad hR_302 (by first | exact q_106d90f3b h_86 h_87 | omega)
            have hrb_hR_302 := rt_bad hR_302 (by first | exact q_f7b7d720f h_308 | omega)
            refine v_gi (z := 5) (v := c_82 1 5) c_152_1 kf_8_102 rfl (Nat.le_of_ble_eq_true rfl) rfl rfl hrb_hR_302.2.1 (q_iconst c_152_4 (v_ic_ne_t (t := 12) c_152_5 rfl ⟨by first | exact q_0f78863d3 h_308 | omega, ⟨(Int.le_trans (by decide) h_201.1), (Int.le_trans h_201.2 (by decide))⟩, by decide, by decide⟩ (q_iconst c_152_12 (v_zret c_152_13 rfl (by decide) (bk_inl (v_if_ne_f (t := 119) c_207_113 rfl (by decide) (q_goto (t := 134) c_207_116 rfl ?_)))))))
            refine Wp_ls [(0, .ref 41), (1, vi a1), (2, vi v)] (lsub_cons rfl (lsub_cons rfl (lsub_cons rfl lsub_nil))) ?_
            have h_309 : c_298 41 5 = c_82 1 5 := hrb_hR_302.2.1
            have h_310 : c_298 41 6 = c_82 1 4 := hrb_hR_302.2.2.2
            exact K c_298 v hI_299 (fun a j hm => (hF_300 a j (qv_89aead39f hm)).trans ((hF_287 a j (qv_89aead39f hm)).trans ((hF_236 a j (qv_89aead39f hm)).trans ((hF_219 a j (fun h => hm (Or.inl h))).trans (hFc a j hm))))) ⟨by omega, by omega⟩ (rt_i2 ⟨⟨by first | exact q_c4ab36c8d h_197 h_308 | omega, by first | exact q_c99d6ea93 h_196 | omega⟩, by first | exact q_88dc5fb99 h_203 | omega, by first | exact q_cb71117a2 h_203 h_308 | omega, by first | exact q_88dc5fb99 h_197 | omega⟩) (Or.inr (Or.inl (by first | exact q_374cd1df9 h_197 h_308 | omega)))
      · refine v_ic_eq_f (t := 67) c_36_57 rfl ⟨h_72, ⟨by first | exact q_87765d87e h_66 | omega, by first | exact q_cf71bb2da h_66 | omega⟩, by decide, by decide⟩ (q_aload_n c_36_60 rfl (q_iconst c_36_61 (q_iload c_36_62 rfl (v_cv c_36_64 km_2_64 rfl rfl (Nat.le_of_ble_eq_true rfl) ⟨⟨rfl, rfl⟩, Nat.le_of_ble_eq_true rfl, rfl⟩ (Nat.le_of_ble_eq_true rfl) (Nat.le_of_ble_eq_true rfl) (q_aload_n c_7_0 rfl ?_)))))
        have h_311 := ir_1_4 hI_61
        refine v_gi (z := 4) (v := c_60 1 4) c_7_1 kf_5_38 rfl (Nat.le_of_ble_eq_true rfl) rfl rfl rfl ?_
        by_cases h_312 : c_60 1 4 ≠ 0
        · refine v_if_ne_t (t := 17) c_7_4 rfl ⟨h_312, ⟨(Int.le_trans (by decide) h_311.1), (Int.le_trans h_311.2 (by decide))⟩, by decide, by decide⟩ (q_vret rfl rfl (bk_inl (q_aload_n c_36_67 rfl (v_gr (t := (A + 5)) c_36_68 kf_2_28 (ck_p0 hA) (a68z hA) rfl (q_iload c_36_71 rfl (q_aload_n c_36_73 rfl (v_sip c_36_74 (by decide) ?_)))))))
          refine v_cv c_36_77 km_2_101 rfl rfl (Nat.le_of_ble_eq_true rfl) ⟨⟨rfl, rfl⟩, Nat.le_of_ble_eq_true rfl, rfl⟩ (Nat.le_of_ble_eq_true rfl) (Nat.le_of_ble_eq_true rfl) (q_aload_n c_8_0 rfl (v_cv c_8_1 km_5_45 rfl rfl (Nat.le_of_ble_eq_true rfl) ⟨⟨rfl, rfl⟩, Nat.le_of_ble_eq_true rfl, rfl⟩ (Nat.le_of_ble_eq_true rfl) (Nat.le_of_ble_eq_true rfl) (q_aload_n c_2_0 rfl (v_gi (z := 4) (v := c_60 1 4) c_2_1 kf_5_38 rfl (Nat.le_of_ble_eq_true rfl) rfl rfl rfl (v_if_ne_t (t := 11) c_2_4 rfl ⟨by first | exact q_646bc4652 h_311 h_312 | omega, ⟨(Int.le_trans (by decide) h_311.1), (Int.le_trans h_311.2 (by decide))⟩, by decide, by decide⟩ (q_iconst c_2_11 (v_zret c_2_12 rfl (by decide) ?_)))))))
          refine bk_inl (v_if_ne_f (t := 9) c_8_4 rfl (by decide) (q_iconst c_8_7 (q_iret c_8_8 rfl (bk_inl (v_is c_36_80 (ck_p5 hA) (a68 hA rfl) (by decide) ⟨hy_63.1, by first | exact q_ef58644c7 h_64 | omega⟩ (q_aload_n c_36_81 rfl (q_ldc_s c_36_82 rfl rfl (by decide) ?_)))))))
          refine v_cv c_36_84 km_2_77 rfl rfl (Nat.le_of_ble_eq_true rfl) ⟨⟨rfl, rfl⟩, Nat.le_of_ble_eq_true rfl, rfl⟩ (Nat.le_of_ble_eq_true rfl) (Nat.le_of_ble_eq_true rfl) (q_aload_n c_11_0 rfl (v_cv c_11_1 km_5_45 rfl rfl (Nat.le_of_ble_eq_true rfl) ⟨⟨rfl, rfl⟩, Nat.le_of_ble_eq_true rfl, rfl⟩ (Nat.le_of_ble_eq_true rfl) (Nat.le_of_ble_eq_true rfl) (q_aload_n c_2_0 rfl (v_gi (z := 4) (v := c_60 1 4) c_2_1 kf_5_38 rfl (Nat.le_of_ble_eq_true rfl) rfl rfl (up_c (pn hA rfl rfl)) (v_if_ne_t (t := 11) c_2_4 rfl ⟨by first | exact q_646bc4652 h_311 h_312 | omega, ⟨(Int.le_trans (by decide) h_311.1), (Int.le_trans h_311.2 (by decide))⟩, by decide, by decide⟩ (q_iconst c_2_11 (v_zret c_2_12 rfl (by decide) ?_)))))))
          refine bk_inl (v_if_eq_t (t := 25) c_11_4 rfl (by decide) (q_vret rfl rfl (bk_inl (q_iload_n c_36_87 rfl (q_iconst c_36_88 (v_iadd (v := v + 1) c_36_89 rfl (q_istore_n c_36_90 (Nat.le_of_ble_eq_true rfl) ?_)))))))
          refine v_iinc (v := v + 1) c_36_91 rfl (Nat.le_of_ble_eq_true rfl) rfl (q_goto (t := 24) c_36_94 rfl (q_iload_n c_36_24 rfl (q_iconst c_36_25 ?_)))
          by_cases h_313 : v + 1 > 4
          · refine v_ic_gt_t (t := 97) c_36_26 rfl ⟨by decide, h_313, by first | exact rgp_h hv.2 (by decide) | omega⟩ (q_aload_n c_36_97 rfl (v_cv c_36_98 km_2_68 rfl rfl (Nat.le_of_ble_eq_true rfl) ⟨⟨rfl, rfl⟩, Nat.le_of_ble_eq_true rfl, rfl⟩ (Nat.le_of_ble_eq_true rfl) (Nat.le_of_ble_eq_true rfl) (q_aload_n c_2_0 rfl (v_gi (z := 4) (v := c_60 1 4) c_2_1 kf_5_38 rfl (Nat.le_of_ble_eq_true rfl) rfl rfl (up_c (pn hA rfl rfl)) (v_if_ne_t (t := 11) c_2_4 rfl ⟨by first | exact q_646bc4652 h_311 h_312 | omega, ⟨(Int.le_trans (by decide) h_311.1), (Int.le_trans h_311.2 (by decide))⟩, by decide, by decide⟩ (q_iconst c_2_11 (v_zret c_2_12 rfl (by decide) ?_)))))))
            refine bk_inl (v_if_eq_t (t := 123) c_36_101 rfl (by decide) (q_vret rfl rfl ?_))
            have hI_314 := iw_p5 (j := y_63) (v := 0) hI_61 hA ⟨by decide, by decide⟩
            intro hE_315
            have hW : Wd P Q P P (up c_60 (A + 5) y_63 0) = Wd P Q P P m9 := (Prod.mk.inj (Prod.mk.inj hE_315).2).1
            have h_316 := ir_1_4 hJ9
            have h_317 : m9 1 4 = c_60 1 4 := wd_fv (z := 4) 4 rfl hW rfl rfl rfl rfl (by decide) (up_c (pn hA rfl rfl)) ⟨(Int.le_trans (by decide) h_311.1), (Int.le_trans h_311.2 (by decide))⟩ ⟨(Int.le_trans (by decide) h_316.1), (Int.le_trans h_316.2 (by decide))⟩
            have h_318 := ir_1_2 hI_61
            have h_319 := ir_1_2 hJ9
            have h_320 : m9 1 2 = c_60 1 2 := wd_fv (z := 2) 2 rfl hW rfl rfl rfl rfl (by decide) (up_c (pn hA rfl rfl)) ⟨(Int.le_trans (by decide) h_318.1), (Int.le_trans h_318.2 (by decide))⟩ ⟨(Int.le_trans (by decide) h_319.1), (Int.le_trans h_319.2 (by decide))⟩
            have h_321 := ir_1_5 hI_61
            have h_322 := ir_1_5 hJ9
            have h_323 : m9 1 5 = c_60 1 5 := wd_fv (z := 5) 5 rfl hW rfl rfl rfl rfl (by decide) (up_c (pn hA rfl rfl)) ⟨(Int.le_trans (by decide) h_321.1), (Int.le_trans h_321.2 (by decide))⟩ ⟨(Int.le_trans (by decide) h_322.1), (Int.le_trans h_322.2 (by decide))⟩
            have h_324 := ir_p0_5 hJ2 hA
            have kn_325 : Hid (c_19 A 5 = m2 A 5) := hF_21 A 5 (fun h => absurd h.1 (np0 hA rfl))
            have kn_326 : Hid (c_54 A 5 = m2 A 5) := (hF_56 A 5 (fun h => absurd h.1 (np0 hA rfl))).trans (hid kn_325)
            have kn_327 : Hid (c_60 A 5 = m2 A 5) := (hF_62 A 5 (qn_014d425e1 hA)).trans (hid kn_326)
            have h_328 := ir_p0_5 hJ9 hA
            have h_329 : m9 A 5 = m2 A 5 := wd_fv (z := 5) 5 rfl hW (ck_p0 hA) (ck_p0 hA) rfl rfl (a68z hA) ((up_c (p0p rfl)).trans (hid kn_327)) ⟨by first | exact q_1bf3b20be h_324 | omega, by first | exact q_1fdab22f2 h_324 | omega⟩ ⟨(Int.le_trans (by decide) h_328.1), (Int.le_trans h_328.2 (by decide))⟩
            refine q_aload_n c_207_42 rfl (v_cv c_207_43 km_8_131 rfl rfl (Nat.le_of_ble_eq_true rfl) ⟨⟨rfl, rfl⟩, Nat.le_of_ble_eq_true rfl, rfl⟩ (Nat.le_of_ble_eq_true rfl) (Nat.le_of_ble_eq_true rfl) (q_aload_n c_152_0 rfl (v_gi (z := 5) (v := (-1)) c_152_1 kf_8_102 rfl (Nat.le_of_ble_eq_true rfl) rfl rfl (hc_1) (q_iconst c_152_4 (v_ic_ne_f (t := 12) c_152_5 rfl (by decide) (q_iconst c_152_8 (q_goto (t := 13) c_152_9 rfl ?_)))))))
            refine v_zret c_152_13 rfl (by decide) (bk_inl (v_if_eq_f (t := 134) c_207_46 rfl (by decide) (q_aload_n c_207_49 rfl (v_cv c_207_50 km_8_211 rfl rfl (Nat.le_of_ble_eq_true rfl) ⟨⟨rfl, rfl⟩, Nat.le_of_ble_eq_true rfl, rfl⟩ (Nat.le_of_ble_eq_true rfl) (Nat.le_of_ble_eq_true rfl) (q_aload_n c_162_0 rfl ?_)))))
            have kn_330 : Hid (c2 41 3 = e1) := (hFc 41 3 qn_bb859264f).trans (hr_e1)
            have h_331 : -2147483648 ≤ (H (nx F e1 a)) ∧ (H (nx F e1 a)) ≤ 2147483647 := by rw [← hH (nx F e1 a)]; exact ir_43 hI (nx F e1 a)
            have h_332 := hU (nx F e1 a) (by first | exact q_a7eda21a5 h_16 ha | omega) (by first | exact q_6c5402073 h_2 h_24 hr_e1 | omega)
            have h_333 := hb_or (b := H) (e := e1) (r := (nx F e1 a))
            have h_334 := hb_bd (b := H) (e := e1) (r := (nx F e1 a)) (lo := -2147483648) (hi := 2147483647) h_331 (by decide)
            refine v_cv c_162_1 km_8_114 rfl rfl (Nat.le_of_ble_eq_true rfl) ⟨⟨rfl, rfl⟩, Nat.le_of_ble_eq_true rfl, rfl⟩ (Nat.le_of_ble_eq_true rfl) (Nat.le_of_ble_eq_true rfl) (f_154 (e1 := e1) (a9 := a) (B := H) (r8 := (nx F e1 a)) (r := (hb H e1 (nx F e1 a))) hI2 ((hid kn_330)) ((hr_a)) (fun j => (hFc 43 j qn_a54ac4a59).trans (hH j)) ((nx_tr hU (ha.1) ((rg_eq hg_e1 h_1).2)).trans (rfl)) rfl (fun c_335 hI_336 hF_337 h_338 => (bk_inl (q_pop c_162_4 rfl (q_aload_n c_162_5 rfl (v_gi (z := 4) (v := (nx F e1 a)) c_162_6 kf_8_108 rfl (Nat.le_of_ble_eq_true rfl) rfl rfl (h_338) (q_aload_n c_162_9 rfl ?_)))))))
            have kn_339 : Hid (c_335 41 3 = e1) := (hF_337 41 3 (fun h => absurd h.2 (ni rfl))).trans (hid kn_330)
            refine v_gi (z := 3) (v := e1) c_162_10 kf_8_111 rfl (Nat.le_of_ble_eq_true rfl) rfl rfl (hid kn_339) (v_ic_ge_f (t := 20) c_162_13 rfl ⟨by first | exact q_378c2316e h_16 ha | omega, by first | exact q_d17d18138 h_24 | omega, (Int.le_trans (rg_eq hg_e1 h_1).2 (by decide))⟩ (q_iconst c_162_16 (q_goto (t := 21) c_162_17 rfl (v_zret c_162_21 rfl (by decide) (bk_inl (v_if_eq_f (t := 134) c_207_53 rfl (by decide) (q_aload_n c_207_56 rfl ?_)))))))
            refine v_gi (z := 4) (v := (nx F e1 a)) c_207_57 kf_8_108 rfl (Nat.le_of_ble_eq_true rfl) rfl rfl (h_338) (q_istore_n c_207_60 (Nat.le_of_ble_eq_true rfl) (q_aload_n c_207_61 rfl (q_iconst c_207_62 (q_iconst c_207_63 ?_))))
            have kn_340 : Hid (c_54 1 1 = e1) := (hF_56 1 1 (fun h => absurd h.2 (ni rfl))).trans (hid kn_23)
            have h_341 : c_54 1 4 = 0 := (hid kn_59)
            have h_342 : c_54 1 2 = (nx F e1 a) := (hz_57)
            have kn_343 : Hid (c_19 1 5 = (-1)) := (hF_21 1 5 (fun h => absurd h.2 (ni rfl))).trans (hc_2)
            have kn_344 : Hid (c_54 1 5 = (-1)) := (hF_56 1 5 (fun h => absurd h.2 (ni rfl))).trans (hid kn_343)
            have h_345 : c_54 1 5 = (-1) := (hid kn_344)
            have kn_346 : Hid (c_335 41 5 = (-1)) := (hF_337 41 5 (fun h => absurd h.2 (ni rfl))).trans (hc_1)
            have h_347 : c_335 41 5 = (-1) := (hid kn_346)
            have h_348 : c_335 41 4 = (nx F e1 a) := (h_338)
            have h_349 := ir_41_6 hI2
            have kn_350 : Hid (c_335 41 6 = c2 41 6) := hF_337 41 6 (fun h => absurd h.2 (ni rfl))
            have h_351 : c_335 41 6 = c2 41 6 := (hid kn_350)
            refine v_cv c_207_64 km_8_199 rfl rfl (Nat.le_of_ble_eq_true rfl) ⟨⟨rfl, rfl⟩, Nat.le_of_ble_eq_true rfl, rfl⟩ (Nat.le_of_ble_eq_true rfl) (Nat.le_of_ble_eq_true rfl) (L_8 (m := c_54) (a2 := 3) (yg := y_63) (e1 := e1) (a9 := (nx F e1 a)) (f0 := 0) (F := F) (H := H) hI_336 hI_55 hI_61 (show (-1) ≤ 3 ∧ 3 ≤ 9999 from ⟨by decide, by decide⟩) ⟨(Int.le_trans (by decide) hy_63.1), (Int.le_trans hy_63.2 (by decide))⟩ ((hid kn_340)) ((hid kn_339)) ((hz_57)) ((hid kn_59)) (fun j => ((hF_56 2 j (fun h => absurd h.1 (nn rfl))).trans ((hF_21 2 j (fun h => absurd h.1 (nn rfl))).trans (hFm 2 j (qn_870496478 hA)))).trans (hF j)) (fun j => ((hF_337 43 j (fun h => absurd h.1 (nn rfl))).trans (hFc 43 j qn_a54ac4a59)).trans (hH j)) hU (rt_i1 ⟨by first | assumption | omega, by first | assumption | omega, by first | assumption | omega, by first | assumption | omega⟩) hG_65 (fun c_352 y_355 hI_353 hF_354 hy_355 hR_356 h_357 h_358 h_359 h_360 => (bk_inl ?_)))
            have hs_361 := h_357.symm
            subst hs_361
            refine q_istore c_207_67 (Nat.le_of_ble_eq_true rfl) (q_aload_n c_207_69 rfl (v_cv c_207_70 km_8_131 rfl rfl (Nat.le_of_ble_eq_true rfl) ⟨⟨rfl, rfl⟩, Nat.le_of_ble_eq_true rfl, rfl⟩ (Nat.le_of_ble_eq_true rfl) (Nat.le_of_ble_eq_true rfl) (q_aload_n c_152_0 rfl ?_)))
            have h_362 := ir_41_5 hI_353
            have h_363 := ir_41_4 hI_353
            have h_364 := ir_41_6 hI_353
            have h_365 := rt_bad hR_356 (by first | exact q_646bc4652 h_311 h_312 | omega)
            have hrb_hR_356 := rt_bad hR_356 (by first | exact q_f7b7d720f h_365 | omega)
            refine v_gi (z := 5) (v := c_60 1 5) c_152_1 kf_8_102 rfl (Nat.le_of_ble_eq_true rfl) rfl rfl hrb_hR_356.2.1 (q_iconst c_152_4 (v_ic_ne_t (t := 12) c_152_5 rfl ⟨by first | exact q_0f78863d3 h_365 | omega, ⟨(Int.le_trans (by decide) h_321.1), (Int.le_trans h_321.2 (by decide))⟩, by decide, by decide⟩ (q_iconst c_152_12 (v_zret c_152_13 rfl (by decide) (bk_inl (v_if_eq_t (t := 93) c_207_73 rfl (by decide) (q_aload_n c_207_93 rfl ?_)))))))
            refine q_iconst c_207_94 (v_sip c_207_95 (by decide) (v_cv c_207_98 km_8_199 rfl rfl (Nat.le_of_ble_eq_true rfl) ⟨⟨rfl, rfl⟩, Nat.le_of_ble_eq_true rfl, rfl⟩ (Nat.le_of_ble_eq_true rfl) (Nat.le_of_ble_eq_true rfl) (q_aload_n c_160_0 rfl (v_cv c_160_1 km_8_131 rfl rfl (Nat.le_of_ble_eq_true rfl) ⟨⟨rfl, rfl⟩, Nat.le_of_ble_eq_true rfl, rfl⟩ (Nat.le_of_ble_eq_true rfl) (Nat.le_of_ble_eq_true rfl) (q_aload_n c_152_0 rfl (v_gi (z := 5) (v := c_60 1 5) c_152_1 kf_8_102 rfl (Nat.le_of_ble_eq_true rfl) rfl rfl hrb_hR_356.2.1 (q_iconst c_152_4 ?_)))))))
            refine v_ic_ne_t (t := 12) c_152_5 rfl ⟨by first | exact q_0f78863d3 h_365 | omega, ⟨(Int.le_trans (by decide) h_321.1), (Int.le_trans h_321.2 (by decide))⟩, by decide, by decide⟩ (q_iconst c_152_12 (v_zret c_152_13 rfl (by decide) (bk_inl (v_if_ne_f (t := 9) c_160_4 rfl (by decide) (q_iconst c_160_7 (q_iret c_160_8 rfl (bk_inl ?_)))))))
            refine q_istore c_207_101 (Nat.le_of_ble_eq_true rfl) (q_aload_n c_207_103 rfl (v_bip c_207_104 (by decide) (v_cv c_207_106 km_8_229 rfl rfl (Nat.le_of_ble_eq_true rfl) ⟨⟨rfl, rfl⟩, Nat.le_of_ble_eq_true rfl, rfl⟩ (Nat.le_of_ble_eq_true rfl) (Nat.le_of_ble_eq_true rfl) (q_aload_n c_161_0 rfl (v_cv c_161_1 km_8_131 rfl rfl (Nat.le_of_ble_eq_true rfl) ⟨⟨rfl, rfl⟩, Nat.le_of_ble_eq_true rfl, rfl⟩ (Nat.le_of_ble_eq_true rfl) (Nat.le_of_ble_eq_true rfl) (q_aload_n c_152_0 rfl (v_gi (z := 5) (v := c_60 1 5) c_152_1 kf_8_102 rfl (Nat.le_of_ble_eq_true rfl) rfl rfl hrb_hR_356.2.1 ?_)))))))
            refine q_iconst c_152_4 (v_ic_ne_t (t := 12) c_152_5 rfl ⟨by first | exact q_0f78863d3 h_365 | omega, ⟨(Int.le_trans (by decide) h_321.1), (Int.le_trans h_321.2 (by decide))⟩, by decide, by decide⟩ (q_iconst c_152_12 (v_zret c_152_13 rfl (by decide) (bk_inl (v_if_eq_t (t := 24) c_161_4 rfl (by decide) (q_aload_n c_161_24 rfl (v_cv c_161_25 km_8_131 rfl rfl (Nat.le_of_ble_eq_true rfl) ⟨⟨rfl, rfl⟩, Nat.le_of_ble_eq_true rfl, rfl⟩ (Nat.le_of_ble_eq_true rfl) (Nat.le_of_ble_eq_true rfl) ?_)))))))
            refine q_aload_n c_152_0 rfl (v_gi (z := 5) (v := c_60 1 5) c_152_1 kf_8_102 rfl (Nat.le_of_ble_eq_true rfl) rfl rfl hrb_hR_356.2.1 (q_iconst c_152_4 (v_ic_ne_t (t := 12) c_152_5 rfl ⟨by first | exact q_0f78863d3 h_365 | omega, ⟨(Int.le_trans (by decide) h_321.1), (Int.le_trans h_321.2 (by decide))⟩, by decide, by decide⟩ (q_iconst c_152_12 (v_zret c_152_13 rfl (by decide) (bk_inl (v_if_eq_t (t := 41) c_161_28 rfl (by decide) ?_)))))))
            refine q_vret rfl rfl (bk_inl (q_aload_n c_207_109 rfl (v_cv c_207_110 km_8_131 rfl rfl (Nat.le_of_ble_eq_true rfl) ⟨⟨rfl, rfl⟩, Nat.le_of_ble_eq_true rfl, rfl⟩ (Nat.le_of_ble_eq_true rfl) (Nat.le_of_ble_eq_true rfl) (q_aload_n c_152_0 rfl (v_gi (z := 5) (v := c_60 1 5) c_152_1 kf_8_102 rfl (Nat.le_of_ble_eq_true rfl) rfl rfl hrb_hR_356.2.1 (q_iconst c_152_4 (v_ic_ne_t (t := 12) c_152_5 rfl ⟨by first | exact q_0f78863d3 h_365 | omega, ⟨(Int.le_trans (by decide) h_321.1), (Int.le_trans h_321.2 (by decide))⟩, by decide, by decide⟩ ?_)))))))
            refine q_iconst c_152_12 (v_zret c_152_13 rfl (by decide) (bk_inl (v_if_ne_f (t := 119) c_207_113 rfl (by decide) (q_goto (t := 134) c_207_116 rfl (Wp_ls [(0, .ref 41), (1, vi a1), (2, vi v)] (lsub_cons rfl (lsub_cons rfl (lsub_cons rfl lsub_nil))) ?_)))))
            have h_366 : c_352 41 5 = c_60 1 5 := hrb_hR_356.2.1
            have h_367 : c_352 41 6 = c_60 1 4 := hrb_hR_356.2.2.2
            exact K c_352 v hI_353 (fun a j hm => (hF_354 a j (qv_89aead39f hm)).trans ((hF_337 a j (fun h => hm (Or.inl h))).trans (hFc a j hm))) ⟨by omega, by omega⟩ (rt_i2 ⟨⟨by first | exact q_c4ab36c8d h_317 h_365 | omega, by first | exact q_c99d6ea93 h_316 | omega⟩, by first | exact q_88dc5fb99 h_323 | omega, by first | exact q_cb71117a2 h_323 h_365 | omega, by first | exact q_88dc5fb99 h_317 | omega⟩) (Or.inr (Or.inl (by first | exact q_374cd1df9 h_317 h_365 | omega)))
          · refine v_ic_gt_f (t := 97) c_36_26 rfl ⟨by first | exact rgp_l hv.1 (by decide) | omega, (Int.not_lt.mp h_313), by decide⟩ (q_aload_n c_36_29 rfl (v_cv c_36_30 km_2_44 rfl rfl (Nat.le_of_ble_eq_true rfl) ⟨⟨rfl, rfl⟩, Nat.le_of_ble_eq_true rfl, rfl⟩ (Nat.le_of_ble_eq_true rfl) (Nat.le_of_ble_eq_true rfl) (q_aload_n c_15_0 rfl (v_cv c_15_1 km_5_45 rfl rfl (Nat.le_of_ble_eq_true rfl) ⟨⟨rfl, rfl⟩, Nat.le_of_ble_eq_true rfl, rfl⟩ (Nat.le_of_ble_eq_true rfl) (Nat.le_of_ble_eq_true rfl) (q_aload_n c_2_0 rfl (v_gi (z := 4) (v := c_60 1 4) c_2_1 kf_5_38 rfl (Nat.le_of_ble_eq_true rfl) rfl rfl (up_c (pn hA rfl rfl)) (v_if_ne_t (t := 11) c_2_4 rfl ⟨by first | exact q_646bc4652 h_311 h_312 | omega, ⟨(Int.le_trans (by decide) h_311.1), (Int.le_trans h_311.2 (by decide))⟩, by decide, by decide⟩ ?_)))))))
            refine q_iconst c_2_11 (v_zret c_2_12 rfl (by decide) (bk_inl (v_if_eq_t (t := 22) c_15_4 rfl (by decide) (q_iconst c_15_22 (v_zret c_15_23 rfl (by decide) (bk_inl (v_if_eq_t (t := 97) c_36_33 rfl (by decide) ?_)))))))
            refine q_aload_n c_36_97 rfl (v_cv c_36_98 km_2_68 rfl rfl (Nat.le_of_ble_eq_true rfl) ⟨⟨rfl, rfl⟩, Nat.le_of_ble_eq_true rfl, rfl⟩ (Nat.le_of_ble_eq_true rfl) (Nat.le_of_ble_eq_true rfl) (q_aload_n c_2_0 rfl (v_gi (z := 4) (v := c_60 1 4) c_2_1 kf_5_38 rfl (Nat.le_of_ble_eq_true rfl) rfl rfl (up_c (pn hA rfl rfl)) (v_if_ne_t (t := 11) c_2_4 rfl ⟨by first | exact q_646bc4652 h_311 h_312 | omega, ⟨(Int.le_trans (by decide) h_311.1), (Int.le_trans h_311.2 (by decide))⟩, by decide, by decide⟩ (q_iconst c_2_11 (v_zret c_2_12 rfl (by decide) (bk_inl ?_)))))))
            refine v_if_eq_t (t := 123) c_36_101 rfl (by decide) (q_vret rfl rfl ?_)
            have hI_368 := iw_p5 (j := y_63) (v := 0) hI_61 hA ⟨by decide, by decide⟩
            intro hE_369
            have hW : Wd P Q P P (up c_60 (A + 5) y_63 0) = Wd P Q P P m9 := (Prod.mk.inj (Prod.mk.inj hE_369).2).1
            have h_370 := ir_1_4 hJ9
            have h_371 : m9 1 4 = c_60 1 4 := wd_fv (z := 4) 4 rfl hW rfl rfl rfl rfl (by decide) (up_c (pn hA rfl rfl)) ⟨(Int.le_trans (by decide) h_311.1), (Int.le_trans h_311.2 (by decide))⟩ ⟨(Int.le_trans (by decide) h_370.1), (Int.le_trans h_370.2 (by decide))⟩
            have h_372 := ir_1_2 hI_61
            have h_373 := ir_1_2 hJ9
            have h_374 : m9 1 2 = c_60 1 2 := wd_fv (z := 2) 2 rfl hW rfl rfl rfl rfl (by decide) (up_c (pn hA rfl rfl)) ⟨(Int.le_trans (by decide) h_372.1), (Int.le_trans h_372.2 (by decide))⟩ ⟨(Int.le_trans (by decide) h_373.1), (Int.le_trans h_373.2 (by decide))⟩
            have h_375 := ir_1_5 hI_61
            have h_376 := ir_1_5 hJ9
            have h_377 : m9 1 5 = c_60 1 5 := wd_fv (z := 5) 5 rfl hW rfl rfl rfl rfl (by decide) (up_c (pn hA rfl rfl)) ⟨(Int.le_trans (by decide) h_375.1), (Int.le_trans h_375.2 (by decide))⟩ ⟨(Int.le_trans (by decide) h_376.1), (Int.le_trans h_376.2 (by decide))⟩
            have h_378 := ir_p0_5 hJ2 hA
            have kn_379 : Hid (c_19 A 5 = m2 A 5) := hF_21 A 5 (fun h => absurd h.1 (np0 hA rfl))
            have kn_380 : Hid (c_54 A 5 = m2 A 5) := (hF_56 A 5 (fun h => absurd h.1 (np0 hA rfl))).trans (hid kn_379)
            have kn_381 : Hid (c_60 A 5 = m2 A 5) := (hF_62 A 5 (qn_014d425e1 hA)).trans (hid kn_380)
            have h_382 := ir_p0_5 hJ9 hA
            have h_383 : m9 A 5 = m2 A 5 := wd_fv (z := 5) 5 rfl hW (ck_p0 hA) (ck_p0 hA) rfl rfl (a68z hA) ((up_c (p0p rfl)).trans (hid kn_381)) ⟨by first | exact q_1bf3b20be h_378 | omega, by first | exact q_1fdab22f2 h_378 | omega⟩ ⟨(Int.le_trans (by decide) h_382.1), (Int.le_trans h_382.2 (by decide))⟩
            refine q_aload_n c_207_42 rfl (v_cv c_207_43 km_8_131 rfl rfl (Nat.le_of_ble_eq_true rfl) ⟨⟨rfl, rfl⟩, Nat.le_of_ble_eq_true rfl, rfl⟩ (Nat.le_of_ble_eq_true rfl) (Nat.le_of_ble_eq_true rfl) (q_aload_n c_152_0 rfl (v_gi (z := 5) (v := (-1)) c_152_1 kf_8_102 rfl (Nat.le_of_ble_eq_true rfl) rfl rfl (hc_1) (q_iconst c_152_4 (v_ic_ne_f (t := 12) c_152_5 rfl (by decide) (q_iconst c_152_8 (q_goto (t := 13) c_152_9 rfl ?_)))))))
            refine v_zret c_152_13 rfl (by decide) (bk_inl (v_if_eq_f (t := 134) c_207_46 rfl (by decide) (q_aload_n c_207_49 rfl (v_cv c_207_50 km_8_211 rfl rfl (Nat.le_of_ble_eq_true rfl) ⟨⟨rfl, rfl⟩, Nat.le_of_ble_eq_true rfl, rfl⟩ (Nat.le_of_ble_eq_true rfl) (Nat.le_of_ble_eq_true rfl) (q_aload_n c_162_0 rfl ?_)))))
            have kn_384 : Hid (c2 41 3 = e1) := (hFc 41 3 qn_bb859264f).trans (hr_e1)
            have h_385 : -2147483648 ≤ (H (nx F e1 a)) ∧ (H (nx F e1 a)) ≤ 2147483647 := by rw [← hH (nx F e1 a)]; exact ir_43 hI (nx F e1 a)
            have h_386 := hU (nx F e1 a) (by first | exact q_a7eda21a5 h_16 ha | omega) (by first | exact q_6c5402073 h_2 h_24 hr_e1 | omega)
            have h_387 := hb_or (b := H) (e := e1) (r := (nx F e1 a))
            have h_388 := hb_bd (b := H) (e := e1) (r := (nx F e1 a)) (lo := -2147483648) (hi := 2147483647) h_385 (by decide)
            refine v_cv c_162_1 km_8_114 rfl rfl (Nat.le_of_ble_eq_true rfl) ⟨⟨rfl, rfl⟩, Nat.le_of_ble_eq_true rfl, rfl⟩ (Nat.le_of_ble_eq_true rfl) (Nat.le_of_ble_eq_true rfl) (f_154 (e1 := e1) (a9 := a) (B := H) (r8 := (nx F e1 a)) (r := (hb H e1 (nx F e1 a))) hI2 ((hid kn_384)) ((hr_a)) (fun j => (hFc 43 j qn_a54ac4a59).trans (hH j)) ((nx_tr hU (ha.1) ((rg_eq hg_e1 h_1).2)).trans (rfl)) rfl (fun c_389 hI_390 hF_391 h_392 => (bk_inl (q_pop c_162_4 rfl (q_aload_n c_162_5 rfl (v_gi (z := 4) (v := (nx F e1 a)) c_162_6 kf_8_108 rfl (Nat.le_of_ble_eq_true rfl) rfl rfl (h_392) (q_aload_n c_162_9 rfl ?_)))))))
            have kn_393 : Hid (c_389 41 3 = e1) := (hF_391 41 3 (fun h => absurd h.2 (ni rfl))).trans (hid kn_384)
            refine v_gi (z := 3) (v := e1) c_162_10 kf_8_111 rfl (Nat.le_of_ble_eq_true rfl) rfl rfl (hid kn_393) (v_ic_ge_f (t := 20) c_162_13 rfl ⟨by first | exact q_378c2316e h_16 ha | omega, by first | exact q_d17d18138 h_24 | omega, (Int.le_trans (rg_eq hg_e1 h_1).2 (by decide))⟩ (q_iconst c_162_16 (q_goto (t := 21) c_162_17 rfl (v_zret c_162_21 rfl (by decide) (bk_inl (v_if_eq_f (t := 134) c_207_53 rfl (by decide) (q_aload_n c_207_56 rfl ?_)))))))
            refine v_gi (z := 4) (v := (nx F e1 a)) c_207_57 kf_8_108 rfl (Nat.le_of_ble_eq_true rfl) rfl rfl (h_392) (q_istore_n c_207_60 (Nat.le_of_ble_eq_true rfl) (q_aload_n c_207_61 rfl (q_iconst c_207_62 (q_iconst c_207_63 ?_))))
            have kn_394 : Hid (c_54 1 1 = e1) := (hF_56 1 1 (fun h => absurd h.2 (ni rfl))).trans (hid kn_23)
            have h_395 : c_54 1 4 = 0 := (hid kn_59)
            have h_396 : c_54 1 2 = (nx F e1 a) := (hz_57)
            have kn_397 : Hid (c_19 1 5 = (-1)) := (hF_21 1 5 (fun h => absurd h.2 (ni rfl))).trans (hc_2)
            have kn_398 : Hid (c_54 1 5 = (-1)) := (hF_56 1 5 (fun h => absurd h.2 (ni rfl))).trans (hid kn_397)
            have h_399 : c_54 1 5 = (-1) := (hid kn_398)
            have kn_400 : Hid (c_389 41 5 = (-1)) := (hF_391 41 5 (fun h => absurd h.2 (ni rfl))).trans (hc_1)
            have h_401 : c_389 41 5 = (-1) := (hid kn_400)
            have h_402 : c_389 41 4 = (nx F e1 a) := (h_392)
            have h_403 := ir_41_6 hI2
            have kn_404 : Hid (c_389 41 6 = c2 41 6) := hF_391 41 6 (fun h => absurd h.2 (ni rfl))
            have h_405 : c_389 41 6 = c2 41 6 := (hid kn_404)
            refine v_cv c_207_64 km_8_199 rfl rfl (Nat.le_of_ble_eq_true rfl) ⟨⟨rfl, rfl⟩, Nat.le_of_ble_eq_true rfl, rfl⟩ (Nat.le_of_ble_eq_true rfl) (Nat.le_of_ble_eq_true rfl) (L_8 (m := c_54) (a2 := 3) (yg := y_63) (e1 := e1) (a9 := (nx F e1 a)) (f0 := 0) (F := F) (H := H) hI_390 hI_55 hI_61 (show (-1) ≤ 3 ∧ 3 ≤ 9999 from ⟨by decide, by decide⟩) ⟨(Int.le_trans (by decide) hy_63.1), (Int.le_trans hy_63.2 (by decide))⟩ ((hid kn_394)) ((hid kn_393)) ((hz_57)) ((hid kn_59)) (fun j => ((hF_56 2 j (fun h => absurd h.1 (nn rfl))).trans ((hF_21 2 j (fun h => absurd h.1 (nn rfl))).trans (hFm 2 j (qn_870496478 hA)))).trans (hF j)) (fun j => ((hF_391 43 j (fun h => absurd h.1 (nn rfl))).trans (hFc 43 j qn_a54ac4a59)).trans (hH j)) hU (rt_i1 ⟨by first | assumption | omega, by first | assumption | omega, by first | assumption | omega, by first | assumption | omega⟩) hG_65 (fun c_406 y_409 hI_407 hF_408 hy_409 hR_410 h_411 h_412 h_413 h_414 => (bk_inl ?_)))
            have hs_415 := h_411.symm
            subst hs_415
            refine q_istore c_207_67 (Nat.le_of_ble_eq_true rfl) (q_aload_n c_207_69 rfl (v_cv c_207_70 km_8_131 rfl rfl (Nat.le_of_ble_eq_true rfl) ⟨⟨rfl, rfl⟩, Nat.le_of_ble_eq_true rfl, rfl⟩ (Nat.le_of_ble_eq_true rfl) (Nat.le_of_ble_eq_true rfl) (q_aload_n c_152_0 rfl ?_)))
            have h_416 := ir_41_5 hI_407
            have h_417 := ir_41_4 hI_407
            have h_418 := ir_41_6 hI_407
            have h_419 := rt_bad hR_410 (by first | exact q_646bc4652 h_311 h_312 | omega)
            have hrb_hR_410 := rt_bad hR_410 (by first | exact q_f7b7d720f h_419 | omega)
            refine v_gi (z := 5) (v := c_60 1 5) c_152_1 kf_8_102 rfl (Nat.le_of_ble_eq_true rfl) rfl rfl hrb_hR_410.2.1 (q_iconst c_152_4 (v_ic_ne_t (t := 12) c_152_5 rfl ⟨by first | exact q_0f78863d3 h_419 | omega, ⟨(Int.le_trans (by decide) h_375.1), (Int.le_trans h_375.2 (by decide))⟩, by decide, by decide⟩ (q_iconst c_152_12 (v_zret c_152_13 rfl (by decide) (bk_inl (v_if_eq_t (t := 93) c_207_73 rfl (by decide) (q_aload_n c_207_93 rfl ?_)))))))
            refine q_iconst c_207_94 (v_sip c_207_95 (by decide) (v_cv c_207_98 km_8_199 rfl rfl (Nat.le_of_ble_eq_true rfl) ⟨⟨rfl, rfl⟩, Nat.le_of_ble_eq_true rfl, rfl⟩ (Nat.le_of_ble_eq_true rfl) (Nat.le_of_ble_eq_true rfl) (q_aload_n c_160_0 rfl (v_cv c_160_1 km_8_131 rfl rfl (Nat.le_of_ble_eq_true rfl) ⟨⟨rfl, rfl⟩, Nat.le_of_ble_eq_true rfl, rfl⟩ (Nat.le_of_ble_eq_true rfl) (Nat.le_of_ble_eq_true rfl) (q_aload_n c_152_0 rfl (v_gi (z := 5) (v := c_60 1 5) c_152_1 kf_8_102 rfl (Nat.le_of_ble_eq_true rfl) rfl rfl hrb_hR_410.2.1 (q_iconst c_152_4 ?_)))))))
            refine v_ic_ne_t (t := 12) c_152_5 rfl ⟨by first | exact q_0f78863d3 h_419 | omega, ⟨(Int.le_trans (by decide) h_375.1), (Int.le_trans h_375.2 (by decide))⟩, by decide, by decide⟩ (q_iconst c_152_12 (v_zret c_152_13 rfl (by decide) (bk_inl (v_if_ne_f (t := 9) c_160_4 rfl (by decide) (q_iconst c_160_7 (q_iret c_160_8 rfl (bk_inl ?_)))))))
            refine q_istore c_207_101 (Nat.le_of_ble_eq_true rfl) (q_aload_n c_207_103 rfl (v_bip c_207_104 (by decide) (v_cv c_207_106 km_8_229 rfl rfl (Nat.le_of_ble_eq_true rfl) ⟨⟨rfl, rfl⟩, Nat.le_of_ble_eq_true rfl, rfl⟩ (Nat.le_of_ble_eq_true rfl) (Nat.le_of_ble_eq_true rfl) (q_aload_n c_161_0 rfl (v_cv c_161_1 km_8_131 rfl rfl (Nat.le_of_ble_eq_true rfl) ⟨⟨rfl, rfl⟩, Nat.le_of_ble_eq_true rfl, rfl⟩ (Nat.le_of_ble_eq_true rfl) (Nat.le_of_ble_eq_true rfl) (q_aload_n c_152_0 rfl (v_gi (z := 5) (v := c_60 1 5) c_152_1 kf_8_102 rfl (Nat.le_of_ble_eq_true rfl) rfl rfl hrb_hR_410.2.1 ?_)))))))
            refine q_iconst c_152_4 (v_ic_ne_t (t := 12) c_152_5 rfl ⟨by first | exact q_0f78863d3 h_419 | omega, ⟨(Int.le_trans (by decide) h_375.1), (Int.le_trans h_375.2 (by decide))⟩, by decide, by decide⟩ (q_iconst c_152_12 (v_zret c_152_13 rfl (by decide) (bk_inl (v_if_eq_t (t := 24) c_161_4 rfl (by decide) (q_aload_n c_161_24 rfl (v_cv c_161_25 km_8_131 rfl rfl (Nat.le_of_ble_eq_true rfl) ⟨⟨rfl, rfl⟩, Nat.le_of_ble_eq_true rfl, rfl⟩ (Nat.le_of_ble_eq_true rfl) (Nat.le_of_ble_eq_true rfl) ?_)))))))
            refine q_aload_n c_152_0 rfl (v_gi (z := 5) (v := c_60 1 5) c_152_1 kf_8_102 rfl (Nat.le_of_ble_eq_true rfl) rfl rfl hrb_hR_410.2.1 (q_iconst c_152_4 (v_ic_ne_t (t := 12) c_152_5 rfl ⟨by first | exact q_0f78863d3 h_419 | omega, ⟨(Int.le_trans (by decide) h_375.1), (Int.le_trans h_375.2 (by decide))⟩, by decide, by decide⟩ (q_iconst c_152_12 (v_zret c_152_13 rfl (by decide) (bk_inl (v_if_eq_t (t := 41) c_161_28 rfl (by decide) ?_)))))))
            refine q_vret rfl rfl (bk_inl (q_aload_n c_207_109 rfl (v_cv c_207_110 km_8_131 rfl rfl (Nat.le_of_ble_eq_true rfl) ⟨⟨rfl, rfl⟩, Nat.le_of_ble_eq_true rfl, rfl⟩ (Nat.le_of_ble_eq_true rfl) (Nat.le_of_ble_eq_true rfl) (q_aload_n c_152_0 rfl (v_gi (z := 5) (v := c_60 1 5) c_152_1 kf_8_102 rfl (Nat.le_of_ble_eq_true rfl) rfl rfl hrb_hR_410.2.1 (q_iconst c_152_4 (v_ic_ne_t (t := 12) c_152_5 rfl ⟨by first | exact q_0f78863d3 h_419 | omega, ⟨(Int.le_trans (by decide) h_375.1), (Int.le_trans h_375.2 (by decide))⟩, by decide, by decide⟩ ?_)))))))
            refine q_iconst c_152_12 (v_zret c_152_13 rfl (by decide) (bk_inl (v_if_ne_f (t := 119) c_207_113 rfl (by decide) (q_goto (t := 134) c_207_116 rfl (Wp_ls [(0, .ref 41), (1, vi a1), (2, vi v)] (lsub_cons rfl (lsub_cons rfl (lsub_cons rfl lsub_nil))) ?_)))))
            have h_420 : c_406 41 5 = c_60 1 5 := hrb_hR_410.2.1
            have h_421 : c_406 41 6 = c_60 1 4 := hrb_hR_410.2.2.2
            exact K c_406 v hI_407 (fun a j hm => (hF_408 a j (qv_89aead39f hm)).trans ((hF_391 a j (fun h => hm (Or.inl h))).trans (hFc a j hm))) ⟨by omega, by omega⟩ (rt_i2 ⟨⟨by first | exact q_c4ab36c8d h_371 h_419 | omega, by first | exact q_c99d6ea93 h_370 | omega⟩, by first | exact q_88dc5fb99 h_377 | omega, by first | exact q_cb71117a2 h_377 h_419 | omega, by first | exact q_88dc5fb99 h_371 | omega⟩) (Or.inr (Or.inl (by first | exact q_374cd1df9 h_371 h_419 | omega)))
        · refine v_if_ne_f (t := 17) c_7_4 rfl (Decidable.not_not.mp h_312) (q_aload_n c_7_7 rfl (q_iload_n c_7_8 rfl (v_pi (z := 4) c_7_9 kf_5_38 rfl (Nat.le_of_ble_eq_true rfl) rfl rfl rfl (by decide) (q_aload_n c_7_12 rfl (q_iload_n c_7_13 rfl (v_pi (z := 5) c_7_14 kf_5_15 rfl (Nat.le_of_ble_eq_true rfl) rfl rfl rfl (by decide) (q_vret rfl rfl ?_)))))))
          refine bk_inl (q_aload_n c_36_67 rfl (v_gr (t := (A + 5)) c_36_68 kf_2_28 (ck_p0 hA) (a68z hA) rfl (q_iload c_36_71 rfl (q_aload_n c_36_73 rfl (v_sip c_36_74 (by decide) (v_cv c_36_77 km_2_101 rfl rfl (Nat.le_of_ble_eq_true rfl) ⟨⟨rfl, rfl⟩, Nat.le_of_ble_eq_true rfl, rfl⟩ (Nat.le_of_ble_eq_true rfl) (Nat.le_of_ble_eq_true rfl) (q_aload_n c_8_0 rfl ?_)))))))
          refine v_cv c_8_1 km_5_45 rfl rfl (Nat.le_of_ble_eq_true rfl) ⟨⟨rfl, rfl⟩, Nat.le_of_ble_eq_true rfl, rfl⟩ (Nat.le_of_ble_eq_true rfl) (Nat.le_of_ble_eq_true rfl) (q_aload_n c_2_0 rfl (v_gi (z := 4) (v := 2) c_2_1 kf_5_38 rfl (Nat.le_of_ble_eq_true rfl) rfl rfl ((up_n (by decide)).trans (up_e rfl)) (v_if_ne_t (t := 11) c_2_4 rfl (by decide) (q_iconst c_2_11 (v_zret c_2_12 rfl (by decide) (bk_inl (v_if_ne_f (t := 9) c_8_4 rfl (by decide) ?_)))))))
          refine q_iconst c_8_7 (q_iret c_8_8 rfl (bk_inl (v_is c_36_80 (ck_p5 hA) (a68 hA rfl) (by decide) ⟨hy_63.1, by first | exact q_ef58644c7 h_64 | omega⟩ (q_aload_n c_36_81 rfl (q_ldc_s c_36_82 rfl rfl (by decide) (v_cv c_36_84 km_2_77 rfl rfl (Nat.le_of_ble_eq_true rfl) ⟨⟨rfl, rfl⟩, Nat.le_of_ble_eq_true rfl, rfl⟩ (Nat.le_of_ble_eq_true rfl) (Nat.le_of_ble_eq_true rfl) (q_aload_n c_11_0 rfl ?_)))))))
          refine v_cv c_11_1 km_5_45 rfl rfl (Nat.le_of_ble_eq_true rfl) ⟨⟨rfl, rfl⟩, Nat.le_of_ble_eq_true rfl, rfl⟩ (Nat.le_of_ble_eq_true rfl) (Nat.le_of_ble_eq_true rfl) (q_aload_n c_2_0 rfl (v_gi (z := 4) (v := 2) c_2_1 kf_5_38 rfl (Nat.le_of_ble_eq_true rfl) rfl rfl ((up_c (pn hA rfl rfl)).trans ((up_n (by decide)).trans (up_e rfl))) (v_if_ne_t (t := 11) c_2_4 rfl (by decide) (q_iconst c_2_11 (v_zret c_2_12 rfl (by decide) (bk_inl (v_if_eq_t (t := 25) c_11_4 rfl (by decide) ?_)))))))
          refine q_vret rfl rfl (bk_inl (q_iload_n c_36_87 rfl (q_iconst c_36_88 (v_iadd (v := v + 1) c_36_89 rfl (q_istore_n c_36_90 (Nat.le_of_ble_eq_true rfl) (v_iinc (v := v + 1) c_36_91 rfl (Nat.le_of_ble_eq_true rfl) rfl (q_goto (t := 24) c_36_94 rfl ?_)))))))
          refine q_iload_n c_36_24 rfl (q_iconst c_36_25 ?_)
          by_cases h_422 : v + 1 > 4
          · refine v_ic_gt_t (t := 97) c_36_26 rfl ⟨by decide, h_422, by first | exact rgp_h hv.2 (by decide) | omega⟩ (q_aload_n c_36_97 rfl (v_cv c_36_98 km_2_68 rfl rfl (Nat.le_of_ble_eq_true rfl) ⟨⟨rfl, rfl⟩, Nat.le_of_ble_eq_true rfl, rfl⟩ (Nat.le_of_ble_eq_true rfl) (Nat.le_of_ble_eq_true rfl) (q_aload_n c_2_0 rfl (v_gi (z := 4) (v := 2) c_2_1 kf_5_38 rfl (Nat.le_of_ble_eq_true rfl) rfl rfl ((up_c (pn hA rfl rfl)).trans ((up_n (by decide)).trans (up_e rfl))) (v_if_ne_t (t := 11) c_2_4 rfl (by decide) (q_iconst c_2_11 (v_zret c_2_12 rfl (by decide) ?_)))))))
            refine bk_inl (v_if_eq_t (t := 123) c_36_101 rfl (by decide) (q_vret rfl rfl ?_))
            have hI_423 := iw_1_4 (v := 2) hI_61 ⟨by decide, by decide⟩
            have hI_424 := iw_1_5 (v := (nx F e1 a)) hI_423 ⟨by first | exact q_9531afe7c h_16 ha | omega, by first | exact q_8ee92dabb h_2 h_24 hr_e1 | omega⟩
            have hI_425 := iw_p5 (j := y_63) (v := 0) hI_424 hA ⟨by decide, by decide⟩
            intro hE_426
            have hW : Wd P Q P P (up (up (up c_60 1 4 2) 1 5 (nx F e1 a)) (A + 5) y_63 0) = Wd P Q P P m9 := (Prod.mk.inj (Prod.mk.inj hE_426).2).1
            have h_427 := ir_1_4 hJ9
            have h_428 : m9 1 4 = 2 := wd_fv (z := 4) 4 rfl hW rfl rfl rfl rfl (by decide) ((up_c (pn hA rfl rfl)).trans ((up_n (by decide)).trans (up_e rfl))) ⟨by decide, by decide⟩ ⟨(Int.le_trans (by decide) h_427.1), (Int.le_trans h_427.2 (by decide))⟩
            have h_429 := ir_1_2 hI_61
            have h_430 := ir_1_2 hJ9
            have h_431 : m9 1 2 = c_60 1 2 := wd_fv (z := 2) 2 rfl hW rfl rfl rfl rfl (by decide) ((up_c (pn hA rfl rfl)).trans ((up_n (by decide)).trans (up_n (by decide)))) ⟨(Int.le_trans (by decide) h_429.1), (Int.le_trans h_429.2 (by decide))⟩ ⟨(Int.le_trans (by decide) h_430.1), (Int.le_trans h_430.2 (by decide))⟩
            have h_432 := ir_1_5 hJ9
            have h_433 : m9 1 5 = (nx F e1 a) := wd_fv (z := 5) 5 rfl hW rfl rfl rfl rfl (by decide) ((up_c (pn hA rfl rfl)).trans (up_e rfl)) ⟨by first | exact q_378c2316e h_16 ha | omega, by first | exact q_f47c0b92d h_2 h_24 hr_e1 | omega⟩ ⟨(Int.le_trans (by decide) h_432.1), (Int.le_trans h_432.2 (by decide))⟩
            have h_434 := ir_p0_5 hJ2 hA
            have kn_435 : Hid (c_19 A 5 = m2 A 5) := hF_21 A 5 (fun h => absurd h.1 (np0 hA rfl))
            have kn_436 : Hid (c_54 A 5 = m2 A 5) := (hF_56 A 5 (fun h => absurd h.1 (np0 hA rfl))).trans (hid kn_435)
            have kn_437 : Hid (c_60 A 5 = m2 A 5) := (hF_62 A 5 (qn_014d425e1 hA)).trans (hid kn_436)
            have h_438 := ir_p0_5 hJ9 hA
            have h_439 : m9 A 5 = m2 A 5 := wd_fv (z := 5) 5 rfl hW (ck_p0 hA) (ck_p0 hA) rfl rfl (a68z hA) ((up_c (p0p rfl)).trans ((up_c (np0 hA rfl)).trans ((up_c (np0 hA rfl)).trans (hid kn_437)))) ⟨by first | exact q_1bf3b20be h_434 | omega, by first | exact q_1fdab22f2 h_434 | omega⟩ ⟨(Int.le_trans (by decide) h_438.1), (Int.le_trans h_438.2 (by decide))⟩
            refine q_aload_n c_207_42 rfl (v_cv c_207_43 km_8_131 rfl rfl (Nat.le_of_ble_eq_true rfl) ⟨⟨rfl, rfl⟩, Nat.le_of_ble_eq_true rfl, rfl⟩ (Nat.le_of_ble_eq_true rfl) (Nat.le_of_ble_eq_true rfl) (q_aload_n c_152_0 rfl (v_gi (z := 5) (v := (-1)) c_152_1 kf_8_102 rfl (Nat.le_of_ble_eq_true rfl) rfl rfl (hc_1) (q_iconst c_152_4 (v_ic_ne_f (t := 12) c_152_5 rfl (by decide) (q_iconst c_152_8 (q_goto (t := 13) c_152_9 rfl ?_)))))))
            refine v_zret c_152_13 rfl (by decide) (bk_inl (v_if_eq_f (t := 134) c_207_46 rfl (by decide) (q_aload_n c_207_49 rfl (v_cv c_207_50 km_8_211 rfl rfl (Nat.le_of_ble_eq_true rfl) ⟨⟨rfl, rfl⟩, Nat.le_of_ble_eq_true rfl, rfl⟩ (Nat.le_of_ble_eq_true rfl) (Nat.le_of_ble_eq_true rfl) (q_aload_n c_162_0 rfl ?_)))))
            have kn_440 : Hid (c2 41 3 = e1) := (hFc 41 3 qn_bb859264f).trans (hr_e1)
            have h_441 : -2147483648 ≤ (H (nx F e1 a)) ∧ (H (nx F e1 a)) ≤ 2147483647 := by rw [← hH (nx F e1 a)]; exact ir_43 hI (nx F e1 a)
            have h_442 := hU (nx F e1 a) (by first | exact q_a7eda21a5 h_16 ha | omega) (by first | exact q_6c5402073 h_1 h_24 hg_e1 | omega)
            have h_443 := hb_or (b := H) (e := e1) (r := (nx F e1 a))
            have h_444 := hb_bd (b := H) (e := e1) (r := (nx F e1 a)) (lo := -2147483648) (hi := 2147483647) h_441 (by decide)
            refine v_cv c_162_1 km_8_114 rfl rfl (Nat.le_of_ble_eq_true rfl) ⟨⟨rfl, rfl⟩, Nat.le_of_ble_eq_true rfl, rfl⟩ (Nat.le_of_ble_eq_true rfl) (Nat.le_of_ble_eq_true rfl) (f_154 (e1 := e1) (a9 := a) (B := H) (r8 := (nx F e1 a)) (r := (hb H e1 (nx F e1 a))) hI2 ((hid kn_440)) ((hr_a)) (fun j => (hFc 43 j qn_a54ac4a59).trans (hH j)) ((nx_tr hU (ha.1) ((rg_eq hg_e1 h_1).2)).trans (rfl)) rfl (fun c_445 hI_446 hF_447 h_448 => (bk_inl (q_pop c_162_4 rfl (q_aload_n c_162_5 rfl (v_gi (z := 4) (v := (nx F e1 a)) c_162_6 kf_8_108 rfl (Nat.le_of_ble_eq_true rfl) rfl rfl (h_448) (q_aload_n c_162_9 rfl ?_)))))))
            have kn_449 : Hid (c_445 41 3 = e1) := (hF_447 41 3 (fun h => absurd h.2 (ni rfl))).trans (hid kn_440)
            refine v_gi (z := 3) (v := e1) c_162_10 kf_8_111 rfl (Nat.le_of_ble_eq_true rfl) rfl rfl (hid kn_449) (v_ic_ge_f (t := 20) c_162_13 rfl ⟨by first | exact q_378c2316e h_16 ha | omega, by first | exact q_d17d18138 h_24 | omega, (Int.le_trans (rg_eq hg_e1 h_1).2 (by decide))⟩ (q_iconst c_162_16 (q_goto (t := 21) c_162_17 rfl (v_zret c_162_21 rfl (by decide) (bk_inl (v_if_eq_f (t := 134) c_207_53 rfl (by decide) (q_aload_n c_207_56 rfl ?_)))))))
            refine v_gi (z := 4) (v := (nx F e1 a)) c_207_57 kf_8_108 rfl (Nat.le_of_ble_eq_true rfl) rfl rfl (h_448) (q_istore_n c_207_60 (Nat.le_of_ble_eq_true rfl) (q_aload_n c_207_61 rfl (q_iconst c_207_62 (q_iconst c_207_63 ?_))))
            have kn_450 : Hid (c_54 1 1 = e1) := (hF_56 1 1 (fun h => absurd h.2 (ni rfl))).trans (hid kn_23)
            have h_451 : c_54 1 4 = 0 := (hid kn_59)
            have h_452 : c_54 1 2 = (nx F e1 a) := (hz_57)
            have kn_453 : Hid (c_19 1 5 = (-1)) := (hF_21 1 5 (fun h => absurd h.2 (ni rfl))).trans (hc_2)
            have kn_454 : Hid (c_54 1 5 = (-1)) := (hF_56 1 5 (fun h => absurd h.2 (ni rfl))).trans (hid kn_453)
            have h_455 : c_54 1 5 = (-1) := (hid kn_454)
            have kn_456 : Hid (c_445 41 5 = (-1)) := (hF_447 41 5 (fun h => absurd h.2 (ni rfl))).trans (hc_1)
            have h_457 : c_445 41 5 = (-1) := (hid kn_456)
            have h_458 : c_445 41 4 = (nx F e1 a) := (h_448)
            have h_459 := ir_41_6 hI2
            have kn_460 : Hid (c_445 41 6 = c2 41 6) := hF_447 41 6 (fun h => absurd h.2 (ni rfl))
            have h_461 : c_445 41 6 = c2 41 6 := (hid kn_460)
            refine v_cv c_207_64 km_8_199 rfl rfl (Nat.le_of_ble_eq_true rfl) ⟨⟨rfl, rfl⟩, Nat.le_of_ble_eq_true rfl, rfl⟩ (Nat.le_of_ble_eq_true rfl) (Nat.le_of_ble_eq_true rfl) (L_8 (m := c_54) (a2 := 3) (yg := y_63) (e1 := e1) (a9 := (nx F e1 a)) (f0 := 0) (F := F) (H := H) hI_446 hI_55 hI_61 (show (-1) ≤ 3 ∧ 3 ≤ 9999 from ⟨by decide, by decide⟩) ⟨(Int.le_trans (by decide) hy_63.1), (Int.le_trans hy_63.2 (by decide))⟩ ((hid kn_450)) ((hid kn_449)) ((hz_57)) ((hid kn_59)) (fun j => ((hF_56 2 j (fun h => absurd h.1 (nn rfl))).trans ((hF_21 2 j (fun h => absurd h.1 (nn rfl))).trans (hFm 2 j (qn_870496478 hA)))).trans (hF j)) (fun j => ((hF_447 43 j (fun h => absurd h.1 (nn rfl))).trans (hFc 43 j qn_a54ac4a59)).trans (hH j)) hU (rt_i1 ⟨by first | assumption | omega, by first | assumption | omega, by first | assumption | omega, by first | assumption | omega⟩) hG_65 (fun c_462 y_465 hI_463 hF_464 hy_465 hR_466 h_467 h_468 h_469 h_470 => (bk_inl ?_)))
            have hs_471 := h_467.symm
            subst hs_471
            refine q_istore c_207_67 (Nat.le_of_ble_eq_true rfl) (q_aload_n c_207_69 rfl (v_cv c_207_70 km_8_131 rfl rfl (Nat.le_of_ble_eq_true rfl) ⟨⟨rfl, rfl⟩, Nat.le_of_ble_eq_true rfl, rfl⟩ (Nat.le_of_ble_eq_true rfl) (Nat.le_of_ble_eq_true rfl) (q_aload_n c_152_0 rfl ?_)))
            have h_472 := ir_41_5 hI_463
            have h_473 := ir_1_5 hI_61
            have h_474 := ir_41_4 hI_463
            have h_475 := ir_41_6 hI_463
            have h_476 := rt_ok hR_466 (by first | exact q_163d1c5eb h_311 h_312 | omega)
            have hro_hR_466 := rt_ok hR_466 (by first | exact q_163d1c5eb h_311 h_312 | omega)
            refine v_gi (z := 5) (v := (-1)) c_152_1 kf_8_102 rfl (Nat.le_of_ble_eq_true rfl) rfl rfl hro_hR_466.2.1 (q_iconst c_152_4 (v_ic_ne_f (t := 12) c_152_5 rfl (by decide) (q_iconst c_152_8 (q_goto (t := 13) c_152_9 rfl (v_zret c_152_13 rfl (by decide) (bk_inl (v_if_eq_f (t := 93) c_207_73 rfl (by decide) ?_)))))))
            refine q_aload_n c_207_76 rfl (v_gr (t := 63) c_207_77 kf_8_80 rfl (Nat.le_of_ble_eq_true rfl) rfl (q_iload c_207_80 rfl ?_))
            have h_477 := ir_63 hI2 y_63
            have h_478 : m2 (A + 5) y_63 = c2 63 y_63 := ae_rd hrl0 (by omega) (by omega)
            have kn_479 : Hid (c_445 63 y_63 = c2 63 y_63) := hF_447 63 y_63 (fun h => absurd h.1 (nn rfl))
            have kn_480 : Hid (c_462 63 y_63 = c2 63 y_63) := (hF_464 63 y_63 qn_518a05c1b).trans (hid kn_479)
            refine v_ia (v := c2 63 y_63) c_207_82 rfl (by decide) (by decide) ⟨hy_63.1, by first | exact q_51d464dd6 h_64 | omega⟩ (hid kn_480) (q_iconst c_207_83 (v_ic_eq_f (t := 93) c_207_84 rfl ⟨by first | (clear ha1 hq0 hq1 hq2 hq3 hq4 hq5 hv hrd ha h_1 hg_e1 h_2 hr_e1 h_3 hg_f0 h_4 hg_g0 h_5 hr_z0 h_6 hr_z1 h_7 hr_z2 h_8 hr_z3 h_9 hg_a h_10 hr_a h_11 hc_0 h_12 hc_1 h_13 hc_2 hx0 h_15 h_16 h_17 h_24 h_311 h_312 h_427 h_428 h_429 h_430 h_431 h_432 h_433 h_434 h_438 h_439 h_441 h_442 h_444 h_459 h_472 h_473 h_474 h_475 h_476 h_477 h_18 h_64 h_72 h_443 h_468 h_469 h_470; omega) | omega, ⟨by first | exact q_87765d87e h_477 | omega, by first | exact q_cf71bb2da h_477 | omega⟩, by decide, by decide⟩ (q_aload_n c_207_87 rfl (q_iconst c_207_88 (q_iload_n c_207_89 rfl (v_cv c_207_90 km_8_138 rfl rfl (Nat.le_of_ble_eq_true rfl) ⟨⟨rfl, rfl⟩, Nat.le_of_ble_eq_true rfl, rfl⟩ (Nat.le_of_ble_eq_true rfl) (Nat.le_of_ble_eq_true rfl) (q_aload_n c_153_0 rfl ?_)))))))
            refine v_gi (z := 5) (v := (-1)) c_153_1 kf_8_102 rfl (Nat.le_of_ble_eq_true rfl) rfl rfl hro_hR_466.2.1 (q_iconst c_153_4 (v_ic_eq_t (t := 9) c_153_5 rfl (by decide) (q_aload_n c_153_9 rfl (q_iload_n c_153_10 rfl (v_pi (z := 5) c_153_11 kf_8_102 rfl (Nat.le_of_ble_eq_true rfl) rfl rfl rfl (by decide) (q_aload_n c_153_14 rfl (q_iload_n c_153_15 rfl ?_)))))))
            refine v_pi (z := 6) c_153_16 kf_8_105 rfl (Nat.le_of_ble_eq_true rfl) rfl rfl rfl (by decide) (q_vret rfl rfl (bk_inl (q_aload_n c_207_93 rfl (q_iconst c_207_94 (v_sip c_207_95 (by decide) (v_cv c_207_98 km_8_199 rfl rfl (Nat.le_of_ble_eq_true rfl) ⟨⟨rfl, rfl⟩, Nat.le_of_ble_eq_true rfl, rfl⟩ (Nat.le_of_ble_eq_true rfl) (Nat.le_of_ble_eq_true rfl) (q_aload_n c_160_0 rfl ?_)))))))
            refine v_cv c_160_1 km_8_131 rfl rfl (Nat.le_of_ble_eq_true rfl) ⟨⟨rfl, rfl⟩, Nat.le_of_ble_eq_true rfl, rfl⟩ (Nat.le_of_ble_eq_true rfl) (Nat.le_of_ble_eq_true rfl) (q_aload_n c_152_0 rfl (v_gi (z := 5) (v := (nx F e1 a)) c_152_1 kf_8_102 rfl (Nat.le_of_ble_eq_true rfl) rfl rfl ((up_n (by decide)).trans (up_e rfl)) (q_iconst c_152_4 (v_ic_ne_t (t := 12) c_152_5 rfl ⟨by first | exact q_1f202bb18 h_16 ha | omega, ⟨by first | exact q_378c2316e h_16 ha | omega, by first | exact q_783468581 h_432 h_433 | omega⟩, by decide, by decide⟩ (q_iconst c_152_12 (v_zret c_152_13 rfl (by decide) (bk_inl ?_)))))))
            refine v_if_ne_f (t := 9) c_160_4 rfl (by decide) (q_iconst c_160_7 (q_iret c_160_8 rfl (bk_inl (q_istore c_207_101 (Nat.le_of_ble_eq_true rfl) (q_aload_n c_207_103 rfl (v_bip c_207_104 (by decide) (v_cv c_207_106 km_8_229 rfl rfl (Nat.le_of_ble_eq_true rfl) ⟨⟨rfl, rfl⟩, Nat.le_of_ble_eq_true rfl, rfl⟩ (Nat.le_of_ble_eq_true rfl) (Nat.le_of_ble_eq_true rfl) ?_)))))))
            refine q_aload_n c_161_0 rfl (v_cv c_161_1 km_8_131 rfl rfl (Nat.le_of_ble_eq_true rfl) ⟨⟨rfl, rfl⟩, Nat.le_of_ble_eq_true rfl, rfl⟩ (Nat.le_of_ble_eq_true rfl) (Nat.le_of_ble_eq_true rfl) (q_aload_n c_152_0 rfl (v_gi (z := 5) (v := (nx F e1 a)) c_152_1 kf_8_102 rfl (Nat.le_of_ble_eq_true rfl) rfl rfl ((up_n (by decide)).trans (up_e rfl)) (q_iconst c_152_4 (v_ic_ne_t (t := 12) c_152_5 rfl ⟨by first | exact q_1f202bb18 h_16 ha | omega, ⟨by first | exact q_378c2316e h_16 ha | omega, by first | exact q_783468581 h_432 h_433 | omega⟩, by decide, by decide⟩ (q_iconst c_152_12 (v_zret c_152_13 rfl (by decide) ?_)))))))
            refine bk_inl (v_if_eq_t (t := 24) c_161_4 rfl (by decide) (q_aload_n c_161_24 rfl (v_cv c_161_25 km_8_131 rfl rfl (Nat.le_of_ble_eq_true rfl) ⟨⟨rfl, rfl⟩, Nat.le_of_ble_eq_true rfl, rfl⟩ (Nat.le_of_ble_eq_true rfl) (Nat.le_of_ble_eq_true rfl) (q_aload_n c_152_0 rfl (v_gi (z := 5) (v := (nx F e1 a)) c_152_1 kf_8_102 rfl (Nat.le_of_ble_eq_true rfl) rfl rfl ((up_n (by decide)).trans (up_e rfl)) (q_iconst c_152_4 (v_ic_ne_t (t := 12) c_152_5 rfl ⟨by first | exact q_1f202bb18 h_16 ha | omega, ⟨by first | exact q_378c2316e h_16 ha | omega, by first | exact q_783468581 h_432 h_433 | omega⟩, by decide, by decide⟩ ?_)))))))
            refine q_iconst c_152_12 (v_zret c_152_13 rfl (by decide) (bk_inl (v_if_eq_t (t := 41) c_161_28 rfl (by decide) (q_vret rfl rfl (bk_inl (q_aload_n c_207_109 rfl (v_cv c_207_110 km_8_131 rfl rfl (Nat.le_of_ble_eq_true rfl) ⟨⟨rfl, rfl⟩, Nat.le_of_ble_eq_true rfl, rfl⟩ (Nat.le_of_ble_eq_true rfl) (Nat.le_of_ble_eq_true rfl) ?_)))))))
            refine q_aload_n c_152_0 rfl (v_gi (z := 5) (v := (nx F e1 a)) c_152_1 kf_8_102 rfl (Nat.le_of_ble_eq_true rfl) rfl rfl ((up_n (by decide)).trans (up_e rfl)) (q_iconst c_152_4 (v_ic_ne_t (t := 12) c_152_5 rfl ⟨by first | exact q_1f202bb18 h_16 ha | omega, ⟨by first | exact q_378c2316e h_16 ha | omega, by first | exact q_783468581 h_432 h_433 | omega⟩, by decide, by decide⟩ (q_iconst c_152_12 (v_zret c_152_13 rfl (by decide) (bk_inl (v_if_ne_f (t := 119) c_207_113 rfl (by decide) ?_)))))))
            refine q_goto (t := 134) c_207_116 rfl (Wp_ls [(0, .ref 41), (1, vi a1), (2, vi v)] (lsub_cons rfl (lsub_cons rfl (lsub_cons rfl lsub_nil))) ?_)
            have hI_481 := iw_41_5 (v := (nx F e1 a)) hI_463 ⟨by first | exact q_9531afe7c h_16 ha | omega, by first | exact q_6094bb0fa h_432 h_433 | omega⟩
            have hI_482 := iw_41_6 (v := 2) hI_481 ⟨by decide, by decide⟩
            have h_483 : (up (up c_462 41 5 (nx F e1 a)) 41 6 2) 41 5 = (nx F e1 a) := ((up_n (by decide)).trans (up_e rfl))
            have h_484 : (up (up c_462 41 5 (nx F e1 a)) 41 6 2) 41 4 = c_60 1 2 := ((((up_n (by decide)).trans (up_n (by decide)))).trans (hro_hR_466.2.2.1))
            have h_485 : (up (up c_462 41 5 (nx F e1 a)) 41 6 2) 41 6 = 2 := (up_e rfl)
            exact K (up (up c_462 41 5 (nx F e1 a)) 41 6 2) v hI_482 (fun a j hm => (up_b (Decidable.or_iff_not_imp_left.mpr (fun h1 h2 => hm (Or.inr (Or.inr (Or.inl ⟨Decidable.not_not.mp h1, h2⟩)))))).trans ((up_b (Decidable.or_iff_not_imp_left.mpr (fun h1 h2 => hm (Or.inr (Or.inl ⟨Decidable.not_not.mp h1, h2⟩))))).trans ((hF_464 a j (qv_89aead39f hm)).trans ((hF_447 a j (fun h => hm (Or.inl h))).trans (hFc a j hm))))) ⟨by omega, by omega⟩ (rt_i2 ⟨⟨by first | exact q_254d2140e h_428 | omega, by first | exact q_6ff6db68e h_428 | omega⟩, by first | exact q_88dc5fb99 h_433 | omega, by first | exact q_0a27ce016 h_16 h_433 ha | omega, by first | exact q_8af79aa5c h_428 | omega⟩) (Or.inr (Or.inl (by first | exact q_8d38fc194 h_428 | omega)))
          · refine v_ic_gt_f (t := 97) c_36_26 rfl ⟨by first | exact rgp_l hv.1 (by decide) | omega, (Int.not_lt.mp h_422), by decide⟩ (q_aload_n c_36_29 rfl (v_cv c_36_30 km_2_44 rfl rfl (Nat.le_of_ble_eq_true rfl) ⟨⟨rfl, rfl⟩, Nat.le_of_ble_eq_true rfl, rfl⟩ (Nat.le_of_ble_eq_true rfl) (Nat.le_of_ble_eq_true rfl) (q_aload_n c_15_0 rfl (v_cv c_15_1 km_5_45 rfl rfl (Nat.le_of_ble_eq_true rfl) ⟨⟨rfl, rfl⟩, Nat.le_of_ble_eq_true rfl, rfl⟩ (Nat.le_of_ble_eq_true rfl) (Nat.le_of_ble_eq_true rfl) (q_aload_n c_2_0 rfl (v_gi (z := 4) (v := 2) c_2_1 kf_5_38 rfl (Nat.le_of_ble_eq_true rfl) rfl rfl ((up_c (pn hA rfl rfl)).trans ((up_n (by decide)).trans (up_e rfl))) (v_if_ne_t (t := 11) c_2_4 rfl (by decide) ?_)))))))
            refine q_iconst c_2_11 (v_zret c_2_12 rfl (by decide) (bk_inl (v_if_eq_t (t := 22) c_15_4 rfl (by decide) (q_iconst c_15_22 (v_zret c_15_23 rfl (by decide) (bk_inl (v_if_eq_t (t := 97) c_36_33 rfl (by decide) ?_)))))))
            refine q_aload_n c_36_97 rfl (v_cv c_36_98 km_2_68 rfl rfl (Nat.le_of_ble_eq_true rfl) ⟨⟨rfl, rfl⟩, Nat.le_of_ble_eq_true rfl, rfl⟩ (Nat.le_of_ble_eq_true rfl) (Nat.le_of_ble_eq_true rfl) (q_aload_n c_2_0 rfl (v_gi (z := 4) (v := 2) c_2_1 kf_5_38 rfl (Nat.le_of_ble_eq_true rfl) rfl rfl ((up_c (pn hA rfl rfl)).trans ((up_n (by decide)).trans (up_e rfl))) (v_if_ne_t (t := 11) c_2_4 rfl (by decide) (q_iconst c_2_11 (v_zret c_2_12 rfl (by decide) (bk_inl ?_)))))))
            refine v_if_eq_t (t := 123) c_36_101 rfl (by decide) (q_vret rfl rfl ?_)
            have hI_486 := iw_1_4 (v := 2) hI_61 ⟨by decide, by decide⟩
            have hI_487 := iw_1_5 (v := (nx F e1 a)) hI_486 ⟨by first | exact q_9531afe7c h_16 ha | omega, by first | exact q_8ee92dabb h_2 h_24 hr_e1 | omega⟩
            have hI_488 := iw_p5 (j := y_63) (v := 0) hI_487 hA ⟨by decide, by decide⟩
            intro hE_489
            have hW : Wd P Q P P (up (up (up c_60 1 4 2) 1 5 (nx F e1 a)) (A + 5) y_63 0) = Wd P Q P P m9 := (Prod.mk.inj (Prod.mk.inj hE_489).2).1
            have h_490 := ir_1_4 hJ9
            have h_491 : m9 1 4 = 2 := wd_fv (z := 4) 4 rfl hW rfl rfl rfl rfl (by decide) ((up_c (pn hA rfl rfl)).trans ((up_n (by decide)).trans (up_e rfl))) ⟨by decide, by decide⟩ ⟨(Int.le_trans (by decide) h_490.1), (Int.le_trans h_490.2 (by decide))⟩
            have h_492 := ir_1_2 hI_61
            have h_493 := ir_1_2 hJ9
            have h_494 : m9 1 2 = c_60 1 2 := wd_fv (z := 2) 2 rfl hW rfl rfl rfl rfl (by decide) ((up_c (pn hA rfl rfl)).trans ((up_n (by decide)).trans (up_n (by decide)))) ⟨(Int.le_trans (by decide) h_492.1), (Int.le_trans h_492.2 (by decide))⟩ ⟨(Int.le_trans (by decide) h_493.1), (Int.le_trans h_493.2 (by decide))⟩
            have h_495 := ir_1_5 hJ9
            have h_496 : m9 1 5 = (nx F e1 a) := wd_fv (z := 5) 5 rfl hW rfl rfl rfl rfl (by decide) ((up_c (pn hA rfl rfl)).trans (up_e rfl)) ⟨by first | exact q_378c2316e h_16 ha | omega, by first | exact q_f47c0b92d h_2 h_24 hr_e1 | omega⟩ ⟨(Int.le_trans (by decide) h_495.1), (Int.le_trans h_495.2 (by decide))⟩
            have h_497 := ir_p0_5 hJ2 hA
            have kn_498 : Hid (c_19 A 5 = m2 A 5) := hF_21 A 5 (fun h => absurd h.1 (np0 hA rfl))
            have kn_499 : Hid (c_54 A 5 = m2 A 5) := (hF_56 A 5 (fun h => absurd h.1 (np0 hA rfl))).trans (hid kn_498)
            have kn_500 : Hid (c_60 A 5 = m2 A 5) := (hF_62 A 5 (qn_014d425e1 hA)).trans (hid kn_499)
            have h_501 := ir_p0_5 hJ9 hA
            have h_502 : m9 A 5 = m2 A 5 := wd_fv (z := 5) 5 rfl hW (ck_p0 hA) (ck_p0 hA) rfl rfl (a68z hA) ((up_c (p0p rfl)).trans ((up_c (np0 hA rfl)).trans ((up_c (np0 hA rfl)).trans (hid kn_500)))) ⟨by first | exact q_1bf3b20be h_497 | omega, by first | exact q_1fdab22f2 h_497 | omega⟩ ⟨(Int.le_trans (by decide) h_501.1), (Int.le_trans h_501.2 (by decide))⟩
            refine q_aload_n c_207_42 rfl (v_cv c_207_43 km_8_131 rfl rfl (Nat.le_of_ble_eq_true rfl) ⟨⟨rfl, rfl⟩, Nat.le_of_ble_eq_true rfl, rfl⟩ (Nat.le_of_ble_eq_true rfl) (Nat.le_of_ble_eq_true rfl) (q_aload_n c_152_0 rfl (v_gi (z := 5) (v := (-1)) c_152_1 kf_8_102 rfl (Nat.le_of_ble_eq_true rfl) rfl rfl (hc_1) (q_iconst c_152_4 (v_ic_ne_f (t := 12) c_152_5 rfl (by decide) (q_iconst c_152_8 (q_goto (t := 13) c_152_9 rfl ?_)))))))
            refine v_zret c_152_13 rfl (by decide) (bk_inl (v_if_eq_f (t := 134) c_207_46 rfl (by decide) (q_aload_n c_207_49 rfl (v_cv c_207_50 km_8_211 rfl rfl (Nat.le_of_ble_eq_true rfl) ⟨⟨rfl, rfl⟩, Nat.le_of_ble_eq_true rfl, rfl⟩ (Nat.le_of_ble_eq_true rfl) (Nat.le_of_ble_eq_true rfl) (q_aload_n c_162_0 rfl ?_)))))
            have kn_503 : Hid (c2 41 3 = e1) := (hFc 41 3 qn_bb859264f).trans (hr_e1)
            have h_504 : -2147483648 ≤ (H (nx F e1 a)) ∧ (H (nx F e1 a)) ≤ 2147483647 := by rw [← hH (nx F e1 a)]; exact ir_43 hI (nx F e1 a)
            have h_505 := hU (nx F e1 a) (by first | exact q_a7eda21a5 h_16 ha | omega) (by first | exact q_6c5402073 h_2 h_24 hr_e1 | omega)
            have h_506 := hb_or (b := H) (e := e1) (r := (nx F e1 a))
            have h_507 := hb_bd (b := H) (e := e1) (r := (nx F e1 a)) (lo := -2147483648) (hi := 2147483647) h_504 (by decide)
            refine v_cv c_162_1 km_8_114 rfl rfl (Nat.le_of_ble_eq_true rfl) ⟨⟨rfl, rfl⟩, Nat.le_of_ble_eq_true rfl, rfl⟩ (Nat.le_of_ble_eq_true rfl) (Nat.le_of_ble_eq_true rfl) (f_154 (e1 := e1) (a9 := a) (B := H) (r8 := (nx F e1 a)) (r := (hb H e1 (nx F e1 a))) hI2 ((hid kn_503)) ((hr_a)) (fun j => (hFc 43 j qn_a54ac4a59).trans (hH j)) ((nx_tr hU (ha.1) ((rg_eq hg_e1 h_1).2)).trans (rfl)) rfl (fun c_508 hI_509 hF_510 h_511 => (bk_inl (q_pop c_162_4 rfl (q_aload_n c_162_5 rfl (v_gi (z := 4) (v := (nx F e1 a)) c_162_6 kf_8_108 rfl (Nat.le_of_ble_eq_true rfl) rfl rfl (h_511) (q_aload_n c_162_9 rfl ?_)))))))
            have kn_512 : Hid (c_508 41 3 = e1) := (hF_510 41 3 (fun h => absurd h.2 (ni rfl))).trans (hid kn_503)
            refine v_gi (z := 3) (v := e1) c_162_10 kf_8_111 rfl (Nat.le_of_ble_eq_true rfl) rfl rfl (hid kn_512) (v_ic_ge_f (t := 20) c_162_13 rfl ⟨by first | exact q_378c2316e h_16 ha | omega, by first | exact q_d17d18138 h_24 | omega, (Int.le_trans (rg_eq hg_e1 h_1).2 (by decide))⟩ (q_iconst c_162_16 (q_goto (t := 21) c_162_17 rfl (v_zret c_162_21 rfl (by decide) (bk_inl (v_if_eq_f (t := 134) c_207_53 rfl (by decide) (q_aload_n c_207_56 rfl ?_)))))))
            refine v_gi (z := 4) (v := (nx F e1 a)) c_207_57 kf_8_108 rfl (Nat.le_of_ble_eq_true rfl) rfl rfl (h_511) (q_istore_n c_207_60 (Nat.le_of_ble_eq_true rfl) (q_aload_n c_207_61 rfl (q_iconst c_207_62 (q_iconst c_207_63 ?_))))
            have kn_513 : Hid (c_54 1 1 = e1) := (hF_56 1 1 (fun h => absurd h.2 (ni rfl))).trans (hid kn_23)
            have h_514 : c_54 1 4 = 0 := (hid kn_59)
            have h_515 : c_54 1 2 = (nx F e1 a) := (hz_57)
            have kn_516 : Hid (c_19 1 5 = (-1)) := (hF_21 1 5 (fun h => absurd h.2 (ni rfl))).trans (hc_2)
            have kn_517 : Hid (c_54 1 5 = (-1)) := (hF_56 1 5 (fun h => absurd h.2 (ni rfl))).trans (hid kn_516)
            have h_518 : c_54 1 5 = (-1) := (hid kn_517)
            have kn_519 : Hid (c_508 41 5 = (-1)) := (hF_510 41 5 (fun h => absurd h.2 (ni rfl))).trans (hc_1)
            have h_520 : c_508 41 5 = (-1) := (hid kn_519)
            have h_521 : c_508 41 4 = (nx F e1 a) := (h_511)
            have h_522 := ir_41_6 hI2
            have kn_523 : Hid (c_508 41 6 = c2 41 6) := hF_510 41 6 (fun h => absurd h.2 (ni rfl))
            have h_524 : c_508 41 6 = c2 41 6 := (hid kn_523)
            refine v_cv c_207_64 km_8_199 rfl rfl (Nat.le_of_ble_eq_true rfl) ⟨⟨rfl, rfl⟩, Nat.le_of_ble_eq_true rfl, rfl⟩ (Nat.le_of_ble_eq_true rfl) (Nat.le_of_ble_eq_true rfl) (L_8 (m := c_54) (a2 := 3) (yg := y_63) (e1 := e1) (a9 := (nx F e1 a)) (f0 := 0) (F := F) (H := H) hI_509 hI_55 hI_61 (show (-1) ≤ 3 ∧ 3 ≤ 9999 from ⟨by decide, by decide⟩) ⟨(Int.le_trans (by decide) hy_63.1), (Int.le_trans hy_63.2 (by decide))⟩ ((hid kn_513)) ((hid kn_512)) ((hz_57)) ((hid kn_59)) (fun j => ((hF_56 2 j (fun h => absurd h.1 (nn rfl))).trans ((hF_21 2 j (fun h => absurd h.1 (nn rfl))).trans (hFm 2 j (qn_870496478 hA)))).trans (hF j)) (fun j => ((hF_510 43 j (fun h => absurd h.1 (nn rfl))).trans (hFc 43 j qn_a54ac4a59)).trans (hH j)) hU (rt_i1 ⟨by first | assumption | omega, by first | assumption | omega, by first | assumption | omega, by first | assumption | omega⟩) hG_65 (fun c_525 y_528 hI_526 hF_527 hy_528 hR_529 h_530 h_531 h_532 h_533 => (bk_inl ?_)))
            have hs_534 := h_530.symm
            subst hs_534
            refine q_istore c_207_67 (Nat.le_of_ble_eq_true rfl) (q_aload_n c_207_69 rfl (v_cv c_207_70 km_8_131 rfl rfl (Nat.le_of_ble_eq_true rfl) ⟨⟨rfl, rfl⟩, Nat.le_of_ble_eq_true rfl, rfl⟩ (Nat.le_of_ble_eq_true rfl) (Nat.le_of_ble_eq_true rfl) (q_aload_n c_152_0 rfl ?_)))
            have h_535 := ir_41_5 hI_526
            have h_536 := ir_1_5 hI_61
            have h_537 := ir_41_4 hI_526
            have h_538 := ir_41_6 hI_526
            have h_539 := rt_ok hR_529 (by first | exact q_163d1c5eb h_311 h_312 | omega)
            have hro_hR_529 := rt_ok hR_529 (by first | exact q_163d1c5eb h_311 h_312 | omega)
            refine v_gi (z := 5) (v := (-1)) c_152_1 kf_8_102 rfl (Nat.le_of_ble_eq_true rfl) rfl rfl hro_hR_529.2.1 (q_iconst c_152_4 (v_ic_ne_f (t := 12) c_152_5 rfl (by decide) (q_iconst c_152_8 (q_goto (t := 13) c_152_9 rfl (v_zret c_152_13 rfl (by decide) (bk_inl (v_if_eq_f (t := 93) c_207_73 rfl (by decide) ?_)))))))
            refine q_aload_n c_207_76 rfl (v_gr (t := 63) c_207_77 kf_8_80 rfl (Nat.le_of_ble_eq_true rfl) rfl (q_iload c_207_80 rfl ?_))
            have h_540 := ir_63 hI2 y_63
            have h_541 : m2 (A + 5) y_63 = c2 63 y_63 := ae_rd hrl0 (by omega) (by omega)
            have kn_542 : Hid (c_508 63 y_63 = c2 63 y_63) := hF_510 63 y_63 (fun h => absurd h.1 (nn rfl))
            have kn_543 : Hid (c_525 63 y_63 = c2 63 y_63) := (hF_527 63 y_63 qn_518a05c1b).trans (hid kn_542)
            refine v_ia (v := c2 63 y_63) c_207_82 rfl (by decide) (by decide) ⟨hy_63.1, by first | exact q_51d464dd6 h_64 | omega⟩ (hid kn_543) (q_iconst c_207_83 (v_ic_eq_f (t := 93) c_207_84 rfl ⟨by first | exact q_5217f92b8 h_541 h_66 h_72 | omega, ⟨by first | exact q_87765d87e h_540 | omega, by first | exact q_cf71bb2da h_540 | omega⟩, by decide, by decide⟩ (q_aload_n c_207_87 rfl (q_iconst c_207_88 (q_iload_n c_207_89 rfl (v_cv c_207_90 km_8_138 rfl rfl (Nat.le_of_ble_eq_true rfl) ⟨⟨rfl, rfl⟩, Nat.le_of_ble_eq_true rfl, rfl⟩ (Nat.le_of_ble_eq_true rfl) (Nat.le_of_ble_eq_true rfl) (q_aload_n c_153_0 rfl ?_)))))))
            refine v_gi (z := 5) (v := (-1)) c_153_1 kf_8_102 rfl (Nat.le_of_ble_eq_true rfl) rfl rfl hro_hR_529.2.1 (q_iconst c_153_4 (v_ic_eq_t (t := 9) c_153_5 rfl (by decide) (q_aload_n c_153_9 rfl (q_iload_n c_153_10 rfl (v_pi (z := 5) c_153_11 kf_8_102 rfl (Nat.le_of_ble_eq_true rfl) rfl rfl rfl (by decide) (q_aload_n c_153_14 rfl (q_iload_n c_153_15 rfl ?_)))))))
            refine v_pi (z := 6) c_153_16 kf_8_105 rfl (Nat.le_of_ble_eq_true rfl) rfl rfl rfl (by decide) (q_vret rfl rfl (bk_inl (q_aload_n c_207_93 rfl (q_iconst c_207_94 (v_sip c_207_95 (by decide) (v_cv c_207_98 km_8_199 rfl rfl (Nat.le_of_ble_eq_true rfl) ⟨⟨rfl, rfl⟩, Nat.le_of_ble_eq_true rfl, rfl⟩ (Nat.le_of_ble_eq_true rfl) (Nat.le_of_ble_eq_true rfl) (q_aload_n c_160_0 rfl ?_)))))))
            refine v_cv c_160_1 km_8_131 rfl rfl (Nat.le_of_ble_eq_true rfl) ⟨⟨rfl, rfl⟩, Nat.le_of_ble_eq_true rfl, rfl⟩ (Nat.le_of_ble_eq_true rfl) (Nat.le_of_ble_eq_true rfl) (q_aload_n c_152_0 rfl (v_gi (z := 5) (v := (nx F e1 a)) c_152_1 kf_8_102 rfl (Nat.le_of_ble_eq_true rfl) rfl rfl ((up_n (by decide)).trans (up_e rfl)) (q_iconst c_152_4 (v_ic_ne_t (t := 12) c_152_5 rfl ⟨by first | exact q_1f202bb18 h_16 ha | omega, ⟨by first | exact q_378c2316e h_16 ha | omega, by first | exact q_783468581 h_495 h_496 | omega⟩, by decide, by decide⟩ (q_iconst c_152_12 (v_zret c_152_13 rfl (by decide) (bk_inl ?_)))))))
            refine v_if_ne_f (t := 9) c_160_4 rfl (by decide) (q_iconst c_160_7 (q_iret c_160_8 rfl (bk_inl (q_istore c_207_101 (Nat.le_of_ble_eq_true rfl) (q_aload_n c_207_103 rfl (v_bip c_207_104 (by decide) (v_cv c_207_106 km_8_229 rfl rfl (Nat.le_of_ble_eq_true rfl) ⟨⟨rfl, rfl⟩, Nat.le_of_ble_eq_true rfl, rfl⟩ (Nat.le_of_ble_eq_true rfl) (Nat.le_of_ble_eq_true rfl) ?_)))))))
            refine q_aload_n c_161_0 rfl (v_cv c_161_1 km_8_131 rfl rfl (Nat.le_of_ble_eq_true rfl) ⟨⟨rfl, rfl⟩, Nat.le_of_ble_eq_true rfl, rfl⟩ (Nat.le_of_ble_eq_true rfl) (Nat.le_of_ble_eq_true rfl) (q_aload_n c_152_0 rfl (v_gi (z := 5) (v := (nx F e1 a)) c_152_1 kf_8_102 rfl (Nat.le_of_ble_eq_true rfl) rfl rfl ((up_n (by decide)).trans (up_e rfl)) (q_iconst c_152_4 (v_ic_ne_t (t := 12) c_152_5 rfl ⟨by first | exact q_1f202bb18 h_16 ha | omega, ⟨by first | exact q_378c2316e h_16 ha | omega, by first | exact q_783468581 h_495 h_496 | omega⟩, by decide, by decide⟩ (q_iconst c_152_12 (v_zret c_152_13 rfl (by decide) ?_)))))))
            refine bk_inl (v_if_eq_t (t := 24) c_161_4 rfl (by decide) (q_aload_n c_161_24 rfl (v_cv c_161_25 km_8_131 rfl rfl (Nat.le_of_ble_eq_true rfl) ⟨⟨rfl, rfl⟩, Nat.le_of_ble_eq_true rfl, rfl⟩ (Nat.le_of_ble_eq_true rfl) (Nat.le_of_ble_eq_true rfl) (q_aload_n c_152_0 rfl (v_gi (z := 5) (v := (nx F e1 a)) c_152_1 kf_8_102 rfl (Nat.le_of_ble_eq_true rfl) rfl rfl ((up_n (by decide)).trans (up_e rfl)) (q_iconst c_152_4 (v_ic_ne_t (t := 12) c_152_5 rfl ⟨by first | exact q_1f202bb18 h_16 ha | omega, ⟨by first | exact q_378c2316e h_16 ha | omega, by first | exact q_783468581 h_495 h_496 | omega⟩, by decide, by decide⟩ ?_)))))))
            refine q_iconst c_152_12 (v_zret c_152_13 rfl (by decide) (bk_inl (v_if_eq_t (t := 41) c_161_28 rfl (by decide) (q_vret rfl rfl (bk_inl (q_aload_n c_207_109 rfl (v_cv c_207_110 km_8_131 rfl rfl (Nat.le_of_ble_eq_true rfl) ⟨⟨rfl, rfl⟩, Nat.le_of_ble_eq_true rfl, rfl⟩ (Nat.le_of_ble_eq_true rfl) (Nat.le_of_ble_eq_true rfl) ?_)))))))
            refine q_aload_n c_152_0 rfl (v_gi (z := 5) (v := (nx F e1 a)) c_152_1 kf_8_102 rfl (Nat.le_of_ble_eq_true rfl) rfl rfl ((up_n (by decide)).trans (up_e rfl)) (q_iconst c_152_4 (v_ic_ne_t (t := 12) c_152_5 rfl ⟨by first | exact q_1f202bb18 h_16 ha | omega, ⟨by first | exact q_378c2316e h_16 ha | omega, by first | exact q_783468581 h_495 h_496 | omega⟩, by decide, by decide⟩ (q_iconst c_152_12 (v_zret c_152_13 rfl (by decide) (bk_inl (v_if_ne_f (t := 119) c_207_113 rfl (by decide) ?_)))))))
            refine q_goto (t := 134) c_207_116 rfl (Wp_ls [(0, .ref 41), (1, vi a1), (2, vi v)] (lsub_cons rfl (lsub_cons rfl (lsub_cons rfl lsub_nil))) ?_)
            have hI_544 := iw_41_5 (v := (nx F e1 a)) hI_526 ⟨by first | exact q_9531afe7c h_16 ha | omega, by first | exact q_6094bb0fa h_495 h_496 | omega⟩
            have hI_545 := iw_41_6 (v := 2) hI_544 ⟨by decide, by decide⟩
            have h_546 : (up (up c_525 41 5 (nx F e1 a)) 41 6 2) 41 5 = (nx F e1 a) := ((up_n (by decide)).trans (up_e rfl))
            have h_547 : (up (up c_525 41 5 (nx F e1 a)) 41 6 2) 41 4 = c_60 1 2 := ((((up_n (by decide)).trans (up_n (by decide)))).trans (hro_hR_529.2.2.1))
            have h_548 : (up (up c_525 41 5 (nx F e1 a)) 41 6 2) 41 6 = 2 := (up_e rfl)
            exact K (up (up c_525 41 5 (nx F e1 a)) 41 6 2) v hI_545 (fun a j hm => (up_b (Decidable.or_iff_not_imp_left.mpr (fun h1 h2 => hm (Or.inr (Or.inr (Or.inl ⟨Decidable.not_not.mp h1, h2⟩)))))).trans ((up_b (Decidable.or_iff_not_imp_left.mpr (fun h1 h2 => hm (Or.inr (Or.inl ⟨Decidable.not_not.mp h1, h2⟩))))).trans ((hF_527 a j (qv_89aead39f hm)).trans ((hF_510 a j (fun h => hm (Or.inl h))).trans (hFc a j hm))))) ⟨by omega, by omega⟩ (rt_i2 ⟨⟨by first | exact q_254d2140e h_491 | omega, by first | exact q_6ff6db68e h_491 | omega⟩, by first | exact q_88dc5fb99 h_496 | omega, by first | exact q_0a27ce016 h_16 h_496 ha | omega, by first | exact q_8af79aa5c h_491 | omega⟩) (Or.inr (Or.inl (by first | exact q_8d38fc194 h_491 | omega)))
set_option maxRecDepth 100000 in
set_option maxHeartbeats 4000000 in
theorem L_36 {sc : List Int32} {e eg : Int} {d dh u ug P Q P2 Q2 A : Nat} {c m m9 : ME} {a1 e1 f0 g0 z0 z1 z2 z3 : Int} {F H : Int → Int} {Z : AR → Prop} (hI : Iv u e P2 Q2 c) (hJ : Iv ug eg P Q m) (hJ9 : Iv ug eg P Q m9) (hA : A = 13 ∨ A = 25) (ha1 : (-2147483648) ≤ a1 ∧ a1 ≤ 2147483647) (hq0 : (f0 = 0)) (hq1 : (g0 = (-1))) (hq2 : (z0 = (-1))) (hq3 : (z1 = (-1))) (hq4 : (z2 = (-1))) (hq5 : (z3 = (-1))) (hg_e1 : m 1 1 = e1) (hr_e1 : c 41 3 = e1) (hg_f0 : m 1 4 = f0) (hg_g0 : m 1 5 = g0) (hr_z0 : c 63 0 = z0) (hr_z1 : c 63 1 = z1) (hr_z2 : c 63 2 = z2) (hr_z3 : c 63 3 = z3) (hF : ∀ j : Int, m 2 j = F j) (hH : ∀ j : Int, c 43 j = H j) (hU : Ub F H) (hRt : Rt m c) (hG : Wp sc (dh + 30) 36 0 [(0, .ref A), (1, .ref 1)] [] (Wd P Q P P m) 0 0 (fun q => q = (.inl (none), Wd P Q P P m9, 0, 0))) (K : ∀ (c2 : ME) (y : Int), Iv u e P2 Q2 c2 → (∀ (a : Nat) (j : Int), ¬ ((a = 41 ∧ j = 4) ∨ (a = 41 ∧ j = 5) ∨ (a = 41 ∧ j = 6) ∨ a = 63) → c2 a j = c a j) → 0 ≤ y ∧ y ≤ 4 → (Rt m9 c2) → ((m9 1 4 < 0) ∨ (m9 1 4 > 0) ∨ (m9 A 5 = y)) → Wp sc (d + 22) 207 134 [(0, .ref 41), (1, vi a1), (2, vi y)] [] (Wd P2 Q2 P2 P2 c2) 0 0 Z) : Wp sc (d + 22) 207 42 [(0, .ref 41), (1, vi a1), (2, vi 0)] [] (Wd P2 Q2 P2 P2 c) 0 0 Z := by
  have hP := iv_P hJ
  have hQ := iv_Q hJ
  have h_549 := ir_1_1 hJ
  have h_550 := ir_41_3 hI
  have h_551 := ir_1_4 hJ
  have h_552 := ir_1_5 hJ
  have h_553 := ir_63 hI 0
  have h_554 := ir_63 hI 1
  have h_555 := ir_63 hI 2
  have h_556 := ir_63 hI 3
  refine gh hG (q_iconst c_36_0 (q_istore_n c_36_1 (Nat.le_of_ble_eq_true rfl) (q_iload_n c_36_2 rfl (q_iconst c_36_3 (v_ic_ge_f (t := 20) c_36_4 rfl (by decide) (q_aload_n c_36_7 rfl (v_gr (t := (A + 5)) c_36_8 kf_2_28 (ck_p0 hA) (a68z hA) rfl ?_)))))))
  refine q_iload_n c_36_11 rfl (q_iconst c_36_12 (v_is c_36_13 (ck_p5 hA) (a68 hA rfl) (by decide) (by decide) (v_iinc (v := 1) c_36_14 rfl (Nat.le_of_ble_eq_true rfl) (by decide) (q_goto (t := 2) c_36_17 rfl (q_iload_n c_36_2 rfl (q_iconst c_36_3 (v_ic_ge_f (t := 20) c_36_4 rfl (by decide) ?_)))))))
  refine q_aload_n c_36_7 rfl (v_gr (t := (A + 5)) c_36_8 kf_2_28 (ck_p0 hA) (a68z hA) rfl (q_iload_n c_36_11 rfl (q_iconst c_36_12 (v_is c_36_13 (ck_p5 hA) (a68 hA rfl) (by decide) (by decide) (v_iinc (v := 2) c_36_14 rfl (Nat.le_of_ble_eq_true rfl) (by decide) (q_goto (t := 2) c_36_17 rfl (q_iload_n c_36_2 rfl ?_)))))))
  refine q_iconst c_36_3 (v_ic_ge_f (t := 20) c_36_4 rfl (by decide) (q_aload_n c_36_7 rfl (v_gr (t := (A + 5)) c_36_8 kf_2_28 (ck_p0 hA) (a68z hA) rfl (q_iload_n c_36_11 rfl (q_iconst c_36_12 (v_is c_36_13 (ck_p5 hA) (a68 hA rfl) (by decide) (by decide) (v_iinc (v := 3) c_36_14 rfl (Nat.le_of_ble_eq_true rfl) (by decide) ?_)))))))
  refine q_goto (t := 2) c_36_17 rfl (q_iload_n c_36_2 rfl (q_iconst c_36_3 (v_ic_ge_f (t := 20) c_36_4 rfl (by decide) (q_aload_n c_36_7 rfl (v_gr (t := (A + 5)) c_36_8 kf_2_28 (ck_p0 hA) (a68z hA) rfl (q_iload_n c_36_11 rfl (q_iconst c_36_12 ?_)))))))
  refine v_is c_36_13 (ck_p5 hA) (a68 hA rfl) (by decide) (by decide) (v_iinc (v := 4) c_36_14 rfl (Nat.le_of_ble_eq_true rfl) (by decide) (Wp_ls [(2, vi 4), (0, .ref A), (1, .ref 1)] (lsub_cons rfl (lsub_cons rfl (lsub_cons rfl lsub_nil))) (q_goto (t := 2) c_36_17 rfl (q_iload_n c_36_2 rfl (q_iconst c_36_3 (v_ic_ge_t (t := 20) c_36_4 rfl (by decide) (q_iconst c_36_20 ?_)))))))
  refine q_istore_n c_36_21 (Nat.le_of_ble_eq_true rfl) (q_iconst c_36_22 (q_istore_n c_36_23 (Nat.le_of_ble_eq_true rfl) ?_))
  have hI_557 := iw_p5 (j := 0) (v := (-1)) hJ hA ⟨by decide, by decide⟩
  have hI_558 := iw_p5 (j := 1) (v := (-1)) hI_557 hA ⟨by decide, by decide⟩
  have hI_559 := iw_p5 (j := 2) (v := (-1)) hI_558 hA ⟨by decide, by decide⟩
  have hI_560 := iw_p5 (j := 3) (v := (-1)) hI_559 hA ⟨by decide, by decide⟩
  refine Wp_ls [(0, .ref A), (1, .ref 1), (2, vi 0), (3, vi 0)] (lsub_cons rfl (lsub_cons rfl (lsub_cons rfl (lsub_cons rfl lsub_nil)))) (gh_stop ((s_36_l (sc := sc) (d := dh + 20) (c := (up (up (up (up m (A + 5) 0 (-1)) (A + 5) 1 (-1)) (A + 5) 2 (-1)) (A + 5) 3 (-1))) (Z := fun _ => True) hI_560 hA (fun _ _ _ => trivial) 40).2 (up (up (up (up m (A + 5) 0 (-1)) (A + 5) 1 (-1)) (A + 5) 2 (-1)) (A + 5) 3 (-1)) 0 0 hI_560 (fun a j hm => rfl) ⟨by omega, by omega⟩ ⟨by omega, by omega⟩ (by omega)) (fun hG_561 => (Wp_ls [(0, .ref 41), (1, vi a1), (2, vi 0)] (lsub_cons rfl (lsub_cons rfl (lsub_cons rfl lsub_nil))) ?_)))
  have h_562 := ir_1_2 hJ
  have h_563 := ir_41_4 hI
  have h_564 := ir_41_5 hI
  have h_565 := ir_41_6 hI
  have h_566 := rt_ok hRt (by first | exact q_2cabce820 h_551 hg_f0 hq0 | omega)
  have hro_hRt := rt_ok hRt (by first | exact q_f9c88a064 hq0 | omega)
  have h_567 : cnt ((up (up (up (up m (A + 5) 0 (-1)) (A + 5) 1 (-1)) (A + 5) 2 (-1)) (A + 5) 3 (-1)) (A + 5)) = 0 := cnt_0 (show _ = (-1 : Int) from ((up_n (by decide)).trans ((up_n (by decide)).trans ((up_n (by decide)).trans (up_e rfl))))) (show _ = (-1 : Int) from ((up_n (by decide)).trans ((up_n (by decide)).trans (up_e rfl)))) (show _ = (-1 : Int) from ((up_n (by decide)).trans (up_e rfl))) (show _ = (-1 : Int) from (up_e rfl))
  have hA_568 : Ae 4 ((up (up (up (up m (A + 5) 0 (-1)) (A + 5) 1 (-1)) (A + 5) 2 (-1)) (A + 5) 3 (-1)) (A + 5)) (c 63) := ae_4 ((show _ = (-1) from ((up_n (by decide)).trans ((up_n (by decide)).trans ((up_n (by decide)).trans (up_e rfl))))).trans ((show (-1) = z0 from by omega).trans (show _ = z0 from (hr_z0)).symm)) ((show _ = (-1) from ((up_n (by decide)).trans ((up_n (by decide)).trans (up_e rfl)))).trans ((show (-1) = z1 from by omega).trans (show _ = z1 from (hr_z1)).symm)) ((show _ = (-1) from ((up_n (by decide)).trans (up_e rfl))).trans ((show (-1) = z2 from by omega).trans (show _ = z2 from (hr_z2)).symm)) ((show _ = (-1) from (up_e rfl)).trans ((show (-1) = z3 from by omega).trans (show _ = z3 from (hr_z3)).symm))
  exact (L_36_l (sc := sc) (d := d) (dh := dh) hI hJ hJ9 hA ha1 hq0 hq1 hq2 hq3 hq4 hq5 hg_e1 hr_e1 hg_f0 hg_g0 hr_z0 hr_z1 hr_z2 hr_z3 hF hH hU hRt K 10) c (up (up (up (up m (A + 5) 0 (-1)) (A + 5) 1 (-1)) (A + 5) 2 (-1)) (A + 5) 3 (-1)) 0 0 (m 1 2) hI (fun a j hm => rfl) hI_560 (fun a j hm => (up_b (Decidable.or_iff_not_imp_left.mpr (fun h1 h2 => hm (Or.inr (Or.inr (Or.inr (Or.inr (Or.inl (Decidable.not_not.mp h1))))))))).trans ((up_b (Decidable.or_iff_not_imp_left.mpr (fun h1 h2 => hm (Or.inr (Or.inr (Or.inr (Or.inr (Or.inl (Decidable.not_not.mp h1))))))))).trans ((up_b (Decidable.or_iff_not_imp_left.mpr (fun h1 h2 => hm (Or.inr (Or.inr (Or.inr (Or.inr (Or.inl (Decidable.not_not.mp h1))))))))).trans (up_b (Decidable.or_iff_not_imp_left.mpr (fun h1 h2 => hm (Or.inr (Or.inr (Or.inr (Or.inr (Or.inl (Decidable.not_not.mp h1)))))))))))) ⟨by decide, by decide⟩ ⟨by decide, by decide⟩ ⟨by first | exact q_f0beed051 h_562 | omega, by first | exact q_c7aae8bb3 h_562 | omega⟩ (((up_c (pn hA rfl rfl)).trans ((up_c (pn hA rfl rfl)).trans ((up_c (pn hA rfl rfl)).trans (up_c (pn hA rfl rfl)))))) (hro_hRt.2.2.1) ((show _ = f0 from ((up_c (pn hA rfl rfl)).trans ((up_c (pn hA rfl rfl)).trans ((up_c (pn hA rfl rfl)).trans ((up_c (pn hA rfl rfl)).trans (hg_f0)))))).trans (by first | exact q_f9c88a064 hq0 | omega)) (hro_hRt.2.1) ((show _ = g0 from ((up_c (pn hA rfl rfl)).trans ((up_c (pn hA rfl rfl)).trans ((up_c (pn hA rfl rfl)).trans ((up_c (pn hA rfl rfl)).trans (hg_g0)))))).trans (by first | exact q_ef26995af hq1 | omega)) (by first | assumption | omega) (h_567.trans (by omega)) (ae_le hA_568 (by omega)) hG_561 (by omega)

set_option maxRecDepth 100000 in
set_option maxHeartbeats 4000000 in
theorem L_88 {sc : List Int32} {d dh P Q P2 Q2 : Nat} {c m m9 : ME} {a1 yg t9 : Int} {F H : Int → Int} {Z : AR → Prop} (hI : Iv 0 (-1) P2 Q2 c) (hJ : Iv 0 (-1) P Q m) (hJ9 : Iv 0 (-1) P Q m9) (ha1 : (-2147483648) ≤ a1 ∧ a1 ≤ 2147483647) (hyg : (-2147483648) ≤ yg ∧ yg ≤ 2147483647) (hq0 : (a1 ≥ 0 ∧ a1 ≤ t9 ∧ a1 ≤ 60)) (hg_t9 : m 1 3 = t9) (hr_t9 : c 41 2 = t9) (hF : ∀ j : Int, m 2 j = F j) (hH : ∀ j : Int, c 43 j = H j) (hU : Ub F H) (hG : Wp sc (dh + 50) 88 0 [(0, .ref 0), (1, vi a1)] [] (Wd P Q P P m) 0 0 (fun q => q = (.inl (some (vi yg)), Wd P Q P P m9, 0, 0))) (K : ∀ (c2 : ME) (y : Int), Iv 0 (-1) P2 Q2 c2 → (∀ (a : Nat) (j : Int), ¬ ((a = 41 ∧ j = 0) ∨ a = 42 ∨ (a = 41 ∧ j = 2) ∨ (a = 41 ∧ j = 3) ∨ (a = 41 ∧ j = 4) ∨ (a = 41 ∧ j = 5) ∨ (a = 41 ∧ j = 6) ∨ (a = 41 ∧ j = 7) ∨ (a = 41 ∧ j = 8) ∨ (a = 41 ∧ j = 48) ∨ a = 63 ∨ a = 64) → c2 a j = c a j) → (-2147483648) ≤ y ∧ y ≤ 2147483647 → ((y = yg)) → ((c2 41 2 = 0)) → ((c2 41 8 = m9 1 5)) → ((c2 41 0 = 0)) → Z (.inl (some (vi y)), Wd P2 Q2 P2 P2 c2, 0, 0)) : Wp sc (d + 40) 207 0 [(0, .ref 41), (1, vi a1)] [] (Wd P2 Q2 P2 P2 c) 0 0 Z := by
  have hP := iv_P hJ
  have hQ := iv_Q hJ
  have h_1 := ir_1_3 hJ
  have h_2 := ir_41_2 hI
  refine gh hG (q_aload_n c_88_0 rfl (q_iload_n c_88_1 rfl (v_bip c_88_2 (by decide) (v_cv c_88_4 km_7_81 rfl rfl (Nat.le_of_ble_eq_true rfl) ⟨⟨rfl, rfl⟩, Nat.le_of_ble_eq_true rfl, rfl⟩ (Nat.le_of_ble_eq_true rfl) (Nat.le_of_ble_eq_true rfl) (q_aload_n c_82_0 rfl (q_iload_n c_82_1 rfl (q_iconst c_82_2 ?_)))))))
  refine q_iload_n c_82_3 rfl (q_aload_n c_82_4 rfl (v_gr (t := 1) c_82_5 kf_7_10 rfl (Nat.le_of_ble_eq_true rfl) rfl (v_gi (z := 3) (v := t9) c_82_8 kf_7_77 rfl (Nat.le_of_ble_eq_true rfl) rfl rfl (hg_t9) (v_minx c_82_11 rfl (by omega) (Nat.le_of_ble_eq_true rfl) ⟨by omega, by omega, by omega, by omega⟩ (fun y_3 hy_3 => (q_call c_82_14 rfl rfl rfl (q_iload_n c_80_0 rfl (q_iload_n c_80_1 rfl ?_))))))))
  refine v_ic_lt_f (t := 14) c_80_2 rfl ⟨by decide, by first | exact q_111774ab2 hq0 | omega, ha1.2⟩ (q_iload_n c_80_5 rfl (q_iload_n c_80_6 rfl (v_ic_gt_f (t := 14) c_80_7 rfl (by omega) (q_iconst c_80_10 (q_goto (t := 15) c_80_11 rfl (v_zret c_80_15 rfl (by decide) (bk_inl ?_)))))))
  refine v_cv c_82_17 km_7_161 rfl rfl (Nat.le_of_ble_eq_true rfl) ⟨⟨rfl, rfl⟩, Nat.le_of_ble_eq_true rfl, rfl⟩ (Nat.le_of_ble_eq_true rfl) (Nat.le_of_ble_eq_true rfl) (q_iload_n c_81_0 rfl (v_if_ne_t (t := 25) c_81_1 rfl (by decide) (q_vret rfl rfl (bk_inl (q_aload_n c_82_20 rfl (v_gr (t := 1) c_82_21 kf_7_10 rfl (Nat.le_of_ble_eq_true rfl) rfl (q_iload_n c_82_24 rfl ?_)))))))
  refine v_cv c_82_25 km_7_348 rfl rfl (Nat.le_of_ble_eq_true rfl) ⟨⟨rfl, rfl⟩, Nat.le_of_ble_eq_true rfl, rfl⟩ (Nat.le_of_ble_eq_true rfl) (Nat.le_of_ble_eq_true rfl) (q_aload_n c_74_0 rfl (q_iload_n c_74_1 rfl (q_aload_n c_74_2 rfl (v_gi (z := 3) (v := t9) c_74_3 kf_5_19 rfl (Nat.le_of_ble_eq_true rfl) rfl rfl (hg_t9) (v_minx c_74_6 rfl (by omega) (Nat.le_of_ble_eq_true rfl) ⟨by omega, by omega, by omega, by omega⟩ (fun y_4 hy_4 => (v_pi (z := 1) c_74_9 kf_5_32 rfl (Nat.le_of_ble_eq_true rfl) rfl rfl rfl (by decide) (q_aload_n c_74_12 rfl ?_))))))))
  refine q_iconst c_74_13 (v_pi (z := 2) c_74_14 kf_5_35 rfl (Nat.le_of_ble_eq_true rfl) rfl rfl rfl (by decide) (q_aload_n c_74_17 rfl (q_iconst c_74_18 (v_pi (z := 3) c_74_19 kf_5_19 rfl (Nat.le_of_ble_eq_true rfl) rfl rfl rfl (by decide) (q_aload_n c_74_22 rfl (q_iconst c_74_23 (v_pi (z := 4) c_74_24 kf_5_38 rfl (Nat.le_of_ble_eq_true rfl) rfl rfl rfl (by decide) ?_)))))))
  refine q_aload_n c_74_27 rfl (q_iconst c_74_28 (v_pi (z := 5) c_74_29 kf_5_15 rfl (Nat.le_of_ble_eq_true rfl) rfl rfl rfl (by decide) (q_vret rfl rfl (bk_inl (q_vret rfl rfl (bk_inl (q_aload_n c_88_7 rfl ?_)))))))
  refine v_gr (t := P) c_88_8 kf_7_50 rfl (Nat.le_of_ble_eq_true rfl) rfl (q_aload_n c_88_11 rfl (v_gr (t := 1) c_88_12 kf_7_10 rfl (Nat.le_of_ble_eq_true rfl) rfl ?_))
  have hI_5 := iw_1_1 (v := y_4) hJ ⟨by omega, by omega⟩
  have hI_6 := iw_1_2 (v := 0) hI_5 ⟨by decide, by decide⟩
  have hI_7 := iw_1_3 (v := 0) hI_6 ⟨by decide, by decide⟩
  have hI_8 := iw_1_4 (v := 0) hI_7 ⟨by decide, by decide⟩
  have hI_9 := iw_1_5 (v := (-1)) hI_8 ⟨by decide, by decide⟩
  refine v_cv c_88_15 km_7_148 rfl (ck_p0 hP) (a68z hP) ⟨⟨rfl, rfl⟩, by decide, rfl⟩ (Nat.le_of_ble_eq_true rfl) (Nat.le_of_ble_eq_true rfl) (fn_of (s_36 hI_9 hP (fun c_10 hI_11 hF_12 => ?_)))
  intro hG_13
  refine bk_inl (q_aload_n c_88_18 rfl (q_aload_n c_88_19 rfl (v_gr (t := P) c_88_20 kf_7_50 rfl (Nat.le_of_ble_eq_true rfl) rfl ?_)))
  have h_14 := ir_p0_5 hI_11 hP
  refine v_gi (z := 5) (v := c_10 P 5) c_88_23 kf_7_151 (ck_p0 hP) (a68z hP) rfl rfl rfl (v_cv c_88_26 km_7_105 rfl rfl (Nat.le_of_ble_eq_true rfl) ⟨⟨rfl, rfl⟩, Nat.le_of_ble_eq_true rfl, rfl⟩ (Nat.le_of_ble_eq_true rfl) (Nat.le_of_ble_eq_true rfl) (q_aload_n c_83_0 rfl (v_gr (t := 1) c_83_1 kf_7_10 rfl (Nat.le_of_ble_eq_true rfl) rfl (v_cv c_83_4 km_7_89 rfl rfl (Nat.le_of_ble_eq_true rfl) ⟨⟨rfl, rfl⟩, Nat.le_of_ble_eq_true rfl, rfl⟩ (Nat.le_of_ble_eq_true rfl) (Nat.le_of_ble_eq_true rfl) (q_aload_n c_2_0 rfl ?_)))))
  have h_15 := ir_1_4 hI_11
  refine v_gi (z := 4) (v := c_10 1 4) c_2_1 kf_5_38 rfl (Nat.le_of_ble_eq_true rfl) rfl rfl rfl ?_
  by_cases h_16 : c_10 1 4 ≠ 0
  · refine v_if_ne_t (t := 11) c_2_4 rfl ⟨h_16, ⟨(Int.le_trans (by decide) h_15.1), (Int.le_trans h_15.2 (by decide))⟩, by decide, by decide⟩ (q_iconst c_2_11 (v_zret c_2_12 rfl (by decide) (bk_inl (v_if_eq_t (t := 14) c_83_7 rfl (by decide) (q_aload_n c_83_14 rfl (v_gr (t := 1) c_83_15 kf_7_10 rfl (Nat.le_of_ble_eq_true rfl) rfl (v_gi (z := 4) (v := c_10 1 4) c_83_18 kf_7_351 rfl (Nat.le_of_ble_eq_true rfl) rfl rfl rfl ?_)))))))
    refine v_bip c_83_21 (by decide) (v_isub (v := c_10 1 4 - 10) c_83_23 rfl (q_iret c_83_24 rfl (bk_inl (q_iret c_88_29 rfl ?_))))
    intro hE_17
    have h_18 : yg = c_10 1 4 - 10 := (vi_inj ⟨by omega, by omega⟩ ⟨by omega, by omega⟩ (Option.some.inj (Sum.inl.inj (Prod.mk.inj hE_17).1))).symm
    have hW : Wd P Q P P c_10 = Wd P Q P P m9 := (Prod.mk.inj (Prod.mk.inj hE_17).2).1
    have h_19 := ir_1_5 hI_11
    have h_20 := ir_1_5 hJ9
    have h_21 : m9 1 5 = c_10 1 5 := wd_fv (z := 5) 5 rfl hW rfl rfl rfl rfl (by decide) rfl ⟨(Int.le_trans (by decide) h_19.1), (Int.le_trans h_19.2 (by decide))⟩ ⟨(Int.le_trans (by decide) h_20.1), (Int.le_trans h_20.2 (by decide))⟩
    refine q_aload_n c_207_0 rfl (q_iconst c_207_1 (v_pi (z := 0) c_207_2 kf_8_3 rfl (Nat.le_of_ble_eq_true rfl) rfl rfl rfl (by decide) (q_aload_n c_207_5 rfl (q_iload_n c_207_6 rfl (v_cv c_207_7 km_8_381 rfl rfl (Nat.le_of_ble_eq_true rfl) ⟨⟨rfl, rfl⟩, Nat.le_of_ble_eq_true rfl, rfl⟩ (Nat.le_of_ble_eq_true rfl) (Nat.le_of_ble_eq_true rfl) (q_aload_n c_205_0 rfl (q_iload_n c_205_1 rfl ?_)))))))
    refine v_if_lt_f (t := 23) c_205_2 rfl ⟨by decide, by first | exact q_111774ab2 hq0 | omega, ha1.2⟩ (q_iload_n c_205_5 rfl (q_aload_n c_205_6 rfl (v_gi (z := 2) (v := t9) c_205_7 kf_8_99 rfl (Nat.le_of_ble_eq_true rfl) rfl rfl ((up_n (by decide)).trans (hr_t9)) (v_ic_gt_f (t := 23) c_205_10 rfl ⟨ha1.1, by first | exact q_3162967ed hq0 | omega, (Int.le_trans (rg_eq hg_t9 h_1).2 (by decide))⟩ (q_iload_n c_205_13 rfl (v_bip c_205_14 (by decide) (v_ic_gt_f (t := 23) c_205_16 rfl ⟨ha1.1, by first | exact q_fb30c34d4 hq0 | omega, by decide⟩ ?_)))))))
    refine q_iconst c_205_19 (q_goto (t := 24) c_205_20 rfl (q_iconst c_205_24 (q_iconst c_205_25 (v_cv c_205_26 km_8_203 rfl rfl (Nat.le_of_ble_eq_true rfl) ⟨⟨rfl, rfl⟩, Nat.le_of_ble_eq_true rfl, rfl⟩ (Nat.le_of_ble_eq_true rfl) (Nat.le_of_ble_eq_true rfl) (q_iload_n c_145_0 rfl (v_if_ne_t (t := 26) c_145_1 rfl (by decide) (q_aload_n c_145_26 rfl ?_)))))))
    refine v_gi (z := 0) (v := 0) c_145_27 kf_8_3 rfl (Nat.le_of_ble_eq_true rfl) rfl rfl (up_e rfl) (v_if_ne_f (t := 37) c_145_30 rfl (by decide) (q_iconst c_145_33 (q_goto (t := 38) c_145_34 rfl (v_zret c_145_38 rfl (by decide) (bk_inl (v_zret c_205_29 rfl (by decide) (bk_inl ?_)))))))
    refine v_if_ne_t (t := 15) c_207_10 rfl (by decide) (q_aload_n c_207_15 rfl (q_iload_n c_207_16 rfl ?_))
    have hI_22 := iw_41_0 (v := 0) hI ⟨by decide, by decide⟩
    refine v_cv c_207_17 km_8_207 rfl rfl (Nat.le_of_ble_eq_true rfl) ⟨⟨rfl, rfl⟩, Nat.le_of_ble_eq_true rfl, rfl⟩ (Nat.le_of_ble_eq_true rfl) (Nat.le_of_ble_eq_true rfl) (s_163 (a1 := a1) hI_22 (show 0 ≤ a1 ∧ a1 ≤ 600 from ⟨by first | exact q_111774ab2 hq0 | omega, by first | exact q_25be75120 hq0 | omega⟩) (fun c_23 hI_24 hF_25 h_26 => (bk_inl ?_)))
    have h_27 := ir_41_2 hI_24
    have h_28 := ir_41_3 hI_24
    have h_29 := ir_41_4 hI_24
    have h_30 := ir_41_5 hI_24
    have h_31 := ir_41_7 hI_24
    refine q_iconst c_207_20 (q_istore_n c_207_21 (Nat.le_of_ble_eq_true rfl) (q_iload_n c_207_22 rfl (q_iconst c_207_23 (v_ic_ge_f (t := 40) c_207_24 rfl (by decide) (q_aload_n c_207_27 rfl (v_gr (t := 63) c_207_28 kf_8_80 rfl (Nat.le_of_ble_eq_true rfl) rfl (q_iload_n c_207_31 rfl ?_)))))))
    refine q_iconst c_207_32 (v_is c_207_33 rfl (by decide) (by decide) (by decide) (v_iinc (v := 1) c_207_34 rfl (Nat.le_of_ble_eq_true rfl) (by decide) (q_goto (t := 22) c_207_37 rfl (q_iload_n c_207_22 rfl (q_iconst c_207_23 (v_ic_ge_f (t := 40) c_207_24 rfl (by decide) (q_aload_n c_207_27 rfl ?_)))))))
    refine v_gr (t := 63) c_207_28 kf_8_80 rfl (Nat.le_of_ble_eq_true rfl) rfl (q_iload_n c_207_31 rfl (q_iconst c_207_32 (v_is c_207_33 rfl (by decide) (by decide) (by decide) (v_iinc (v := 2) c_207_34 rfl (Nat.le_of_ble_eq_true rfl) (by decide) (q_goto (t := 22) c_207_37 rfl (q_iload_n c_207_22 rfl (q_iconst c_207_23 ?_)))))))
    refine v_ic_ge_f (t := 40) c_207_24 rfl (by decide) (q_aload_n c_207_27 rfl (v_gr (t := 63) c_207_28 kf_8_80 rfl (Nat.le_of_ble_eq_true rfl) rfl (q_iload_n c_207_31 rfl (q_iconst c_207_32 (v_is c_207_33 rfl (by decide) (by decide) (by decide) (v_iinc (v := 3) c_207_34 rfl (Nat.le_of_ble_eq_true rfl) (by decide) (q_goto (t := 22) c_207_37 rfl ?_)))))))
    refine q_iload_n c_207_22 rfl (q_iconst c_207_23 (v_ic_ge_f (t := 40) c_207_24 rfl (by decide) (q_aload_n c_207_27 rfl (v_gr (t := 63) c_207_28 kf_8_80 rfl (Nat.le_of_ble_eq_true rfl) rfl (q_iload_n c_207_31 rfl (q_iconst c_207_32 (v_is c_207_33 rfl (by decide) (by decide) (by decide) ?_)))))))
    refine v_iinc (v := 4) c_207_34 rfl (Nat.le_of_ble_eq_true rfl) (by decide) (Wp_ls [(2, vi 4), (0, .ref 41), (1, vi a1)] (lsub_cons rfl (lsub_cons rfl (lsub_cons rfl lsub_nil))) (q_goto (t := 22) c_207_37 rfl (q_iload_n c_207_22 rfl (q_iconst c_207_23 (v_ic_ge_t (t := 40) c_207_24 rfl (by decide) (q_iconst c_207_40 (q_istore_n c_207_41 (Nat.le_of_ble_eq_true rfl) ?_)))))))
    refine Wp_ls [(0, .ref 41), (1, vi a1), (2, vi 0)] (lsub_cons rfl (lsub_cons rfl (lsub_cons rfl lsub_nil))) ?_
    have hI_32 := iw_63 (j := 0) (v := (-1)) hI_24 ⟨by decide, by decide⟩
    have hI_33 := iw_63 (j := 1) (v := (-1)) hI_32 ⟨by decide, by decide⟩
    have hI_34 := iw_63 (j := 2) (v := (-1)) hI_33 ⟨by decide, by decide⟩
    have hI_35 := iw_63 (j := 3) (v := (-1)) hI_34 ⟨by decide, by decide⟩
    have h_36 : (up (up (up (up (up m 1 1 y_4) 1 2 0) 1 3 0) 1 4 0) 1 5 (-1)) 1 4 = 0 := ((up_n (by decide)).trans (up_e rfl))
    have h_37 : (up (up (up (up (up m 1 1 y_4) 1 2 0) 1 3 0) 1 4 0) 1 5 (-1)) 1 2 = 0 := ((up_n (by decide)).trans ((up_n (by decide)).trans ((up_n (by decide)).trans (up_e rfl))))
    have h_38 : (up (up (up (up (up m 1 1 y_4) 1 2 0) 1 3 0) 1 4 0) 1 5 (-1)) 1 5 = (-1) := (up_e rfl)
    have h_39 : (up (up (up (up c_23 63 0 (-1)) 63 1 (-1)) 63 2 (-1)) 63 3 (-1)) 41 5 = c_23 41 5 := ((up_c (nn rfl)).trans ((up_c (nn rfl)).trans ((up_c (nn rfl)).trans (up_c (nn rfl)))))
    have h_40 : (up (up (up (up c_23 63 0 (-1)) 63 1 (-1)) 63 2 (-1)) 63 3 (-1)) 41 4 = c_23 41 4 := ((up_c (nn rfl)).trans ((up_c (nn rfl)).trans ((up_c (nn rfl)).trans (up_c (nn rfl)))))
    have h_41 := ir_41_6 hI
    have kn_42 : Hid (c_23 41 6 = c 41 6) := (hF_25 41 6 qn_eb0d473e8).trans (up_n (by decide))
    have h_43 : (up (up (up (up c_23 63 0 (-1)) 63 1 (-1)) 63 2 (-1)) 63 3 (-1)) 41 6 = c 41 6 := ((up_c (nn rfl)).trans ((up_c (nn rfl)).trans ((up_c (nn rfl)).trans ((up_c (nn rfl)).trans (hid kn_42)))))
    refine L_36 (m := up (up (up (up (up m 1 1 y_4) 1 2 0) 1 3 0) 1 4 0) 1 5 (-1)) (a1 := a1) (e1 := y_4) (f0 := 0) (g0 := (-1)) (z0 := (-1)) (z1 := (-1)) (z2 := (-1)) (z3 := (-1)) (F := F) (H := H) hI_35 hI_9 hI_11 hP (show (-2147483648) ≤ a1 ∧ a1 ≤ 2147483647 from ha1) (by first | assumption | omega) (by first | assumption | omega) (by first | assumption | omega) (by first | assumption | omega) (by first | assumption | omega) (by first | assumption | omega) (((up_n (by decide)).trans ((up_n (by decide)).trans ((up_n (by decide)).trans ((up_n (by decide)).trans (up_e rfl)))))) (((show _ = c_23 41 3 from ((up_c (nn rfl)).trans ((up_c (nn rfl)).trans ((up_c (nn rfl)).trans (up_c (nn rfl)))))).trans (by first | assumption | exact Int.le_antisymm (by first | (clear ha1 h_1 hg_t9 h_2 hr_t9 h_14 h_15 h_18 h_19 h_20 h_21 h_27 h_28 h_29 h_30 h_31 h_16; omega) | omega) (by first | (clear ha1 hq0 h_1 hg_t9 h_2 hr_t9 h_14 h_15 h_18 h_19 h_20 h_21 h_27 h_28 h_29 h_30 h_31 h_16; omega) | omega)))) (((up_n (by decide)).trans (up_e rfl))) ((up_e rfl)) (((up_n (by decide)).trans ((up_n (by decide)).trans ((up_n (by decide)).trans (up_e rfl))))) (((up_n (by decide)).trans ((up_n (by decide)).trans (up_e rfl)))) (((up_n (by decide)).trans (up_e rfl))) ((up_e rfl)) (fun j => ((up_c (nn rfl)).trans ((up_c (nn rfl)).trans ((up_c (nn rfl)).trans ((up_c (nn rfl)).trans (up_c (nn rfl)))))).trans (hF j)) (fun j => ((up_c (nn rfl)).trans ((up_c (nn rfl)).trans ((up_c (nn rfl)).trans ((up_c (nn rfl)).trans ((hF_25 43 j qn_78d42cb5c).trans (up_c (nn rfl))))))).trans (hH j)) hU (rt_i1 ⟨by first | assumption | omega, by first | exact q_6d0a553af h_26 h_30 | omega, by first | exact q_a7ddc6b3b h_26 h_29 | omega, by first | assumption | omega⟩) hG_13 (fun c_44 y_47 hI_45 hF_46 hy_47 hR_48 h_49 => ?_)
    refine q_aload_n c_207_134 rfl (q_iload_n c_207_135 rfl (v_cv c_207_136 km_8_232 rfl rfl (Nat.le_of_ble_eq_true rfl) ⟨⟨rfl, rfl⟩, Nat.le_of_ble_eq_true rfl, rfl⟩ (Nat.le_of_ble_eq_true rfl) (Nat.le_of_ble_eq_true rfl) (q_aload_n c_164_0 rfl (q_aload_n c_164_1 rfl ?_))))
    have h_50 := ir_41_5 hI_45
    have h_51 := ir_1_2 hI_11
    have h_52 := ir_41_4 hI_45
    have h_53 := ir_41_6 hI_45
    have h_54 := rt_bad hR_48 (by first | exact q_646bc4652 h_15 h_16 | omega)
    have hrb_hR_48 := rt_bad hR_48 (by first | exact q_f7b7d720f h_54 | omega)
    refine v_gi (z := 5) (v := c_10 1 5) c_164_2 kf_8_102 rfl (Nat.le_of_ble_eq_true rfl) rfl rfl hrb_hR_48.2.1 (v_pi (z := 8) c_164_5 kf_8_17 rfl (Nat.le_of_ble_eq_true rfl) rfl rfl rfl (by decide) (q_aload_n c_164_8 rfl (v_cv c_164_9 km_8_131 rfl rfl (Nat.le_of_ble_eq_true rfl) ⟨⟨rfl, rfl⟩, Nat.le_of_ble_eq_true rfl, rfl⟩ (Nat.le_of_ble_eq_true rfl) (Nat.le_of_ble_eq_true rfl) (q_aload_n c_152_0 rfl (v_gi (z := 5) (v := c_10 1 5) c_152_1 kf_8_102 rfl (Nat.le_of_ble_eq_true rfl) rfl rfl (((up_n (by decide))).trans (hrb_hR_48.2.1)) (q_iconst c_152_4 (v_ic_ne_t (t := 12) c_152_5 rfl ⟨by first | exact q_0f78863d3 h_54 | omega, ⟨(Int.le_trans (by decide) h_19.1), (Int.le_trans h_19.2 (by decide))⟩, by decide, by decide⟩ ?_)))))))
    refine q_iconst c_152_12 (v_zret c_152_13 rfl (by decide) (bk_inl (v_if_eq_t (t := 19) c_164_12 rfl (by decide) (q_aload_n c_164_19 rfl (v_gi (z := 6) (v := c_10 1 4) c_164_20 kf_8_105 rfl (Nat.le_of_ble_eq_true rfl) rfl rfl (((up_n (by decide))).trans (hrb_hR_48.2.2.2)) (v_bip c_164_23 (by decide) (v_isub (v := c_10 1 4 - 10) c_164_25 rfl ?_)))))))
    refine q_iret c_164_26 rfl (bk_inl (q_istore_n c_207_139 (Nat.le_of_ble_eq_true rfl) (q_aload_n c_207_140 rfl (v_gi (z := 5) (v := c_10 1 5) c_207_141 kf_8_102 rfl (Nat.le_of_ble_eq_true rfl) rfl rfl (((up_n (by decide))).trans (hrb_hR_48.2.1)) (q_iconst c_207_144 (v_ic_eq_f (t := 150) c_207_145 rfl ⟨by first | exact q_0f78863d3 h_54 | omega, ⟨(Int.le_trans (by decide) h_19.1), (Int.le_trans h_19.2 (by decide))⟩, by decide, by decide⟩ (q_iload_n c_207_148 rfl ?_)))))))
    refine q_iret c_207_149 rfl ?_
    have hI_55 := iw_41_8 (v := c_10 1 5) hI_45 ⟨h_19.1, (Int.le_trans h_19.2 (by decide))⟩
    have kn_56 : Hid (c_44 41 2 = c_23 41 2) := (hF_46 41 2 qn_a3061adf4).trans ((up_c (nn rfl)).trans ((up_c (nn rfl)).trans ((up_c (nn rfl)).trans (up_c (nn rfl)))))
    have h_57 : (up c_44 41 8 (c_10 1 5)) 41 2 = c_23 41 2 := ((up_n (by decide)).trans (hid kn_56))
    have h_58 : (up c_44 41 8 (c_10 1 5)) 41 8 = c_10 1 5 := (up_e rfl)
    have kn_59 : Hid (c_23 41 0 = 0) := (hF_25 41 0 qn_18af663b8).trans (up_e rfl)
    have kn_60 : Hid (c_44 41 0 = 0) := (hF_46 41 0 qn_e8caa6fa3).trans ((up_c (nn rfl)).trans ((up_c (nn rfl)).trans ((up_c (nn rfl)).trans ((up_c (nn rfl)).trans (hid kn_59)))))
    have h_61 : (up c_44 41 8 (c_10 1 5)) 41 0 = 0 := ((up_n (by decide)).trans (hid kn_60))
    exact K (up c_44 41 8 (c_10 1 5)) (c_10 1 4 - 10) hI_55 (fun a j hm => (up_b (Decidable.or_iff_not_imp_left.mpr (fun h1 h2 => hm (Or.inr (Or.inr (Or.inr (Or.inr (Or.inr (Or.inr (Or.inr (Or.inr (Or.inl ⟨Decidable.not_not.mp h1, h2⟩)))))))))))).trans ((hF_46 a j (qv_03e0300b9 hm)).trans ((up_b (Decidable.or_iff_not_imp_left.mpr (fun h1 h2 => hm (Or.inr (Or.inr (Or.inr (Or.inr (Or.inr (Or.inr (Or.inr (Or.inr (Or.inr (Or.inr (Or.inl (Decidable.not_not.mp h1))))))))))))))).trans ((up_b (Decidable.or_iff_not_imp_left.mpr (fun h1 h2 => hm (Or.inr (Or.inr (Or.inr (Or.inr (Or.inr (Or.inr (Or.inr (Or.inr (Or.inr (Or.inr (Or.inl (Decidable.not_not.mp h1))))))))))))))).trans ((up_b (Decidable.or_iff_not_imp_left.mpr (fun h1 h2 => hm (Or.inr (Or.inr (Or.inr (Or.inr (Or.inr (Or.inr (Or.inr (Or.inr (Or.inr (Or.inr (Or.inl (Decidable.not_not.mp h1))))))))))))))).trans ((up_b (Decidable.or_iff_not_imp_left.mpr (fun h1 h2 => hm (Or.inr (Or.inr (Or.inr (Or.inr (Or.inr (Or.inr (Or.inr (Or.inr (Or.inr (Or.inr (Or.inl (Decidable.not_not.mp h1))))))))))))))).trans ((hF_25 a j (qv_6ad33b000 hm)).trans (up_b (Decidable.or_iff_not_imp_left.mpr (fun h1 h2 => hm (Or.inl ⟨Decidable.not_not.mp h1, h2⟩))))))))))) ⟨by omega, by omega⟩ (by first | exact q_e5f29e5a1 h_18 | omega) (by first | exact q_59baff7b3 h_26 h_27 | omega) (by first | exact q_88dc5fb99 h_21 | omega) (by first | assumption | omega)
  · refine v_if_ne_f (t := 11) c_2_4 rfl (Decidable.not_not.mp h_16) (q_iconst c_2_7 (q_goto (t := 12) c_2_8 rfl (v_zret c_2_12 rfl (by decide) (bk_inl (v_if_eq_f (t := 14) c_83_7 rfl (by decide) (q_iload_n c_83_10 rfl (q_goto (t := 24) c_83_11 rfl ?_)))))))
    refine q_iret c_83_24 rfl (bk_inl (q_iret c_88_29 rfl ?_))
    intro hE_62
    have h_63 : yg = c_10 P 5 := (vi_inj ⟨by omega, by omega⟩ ⟨by omega, by omega⟩ (Option.some.inj (Sum.inl.inj (Prod.mk.inj hE_62).1))).symm
    have hW : Wd P Q P P c_10 = Wd P Q P P m9 := (Prod.mk.inj (Prod.mk.inj hE_62).2).1
    have h_64 := ir_1_5 hI_11
    have h_65 := ir_1_5 hJ9
    have h_66 : m9 1 5 = c_10 1 5 := wd_fv (z := 5) 5 rfl hW rfl rfl rfl rfl (by decide) rfl ⟨(Int.le_trans (by decide) h_64.1), (Int.le_trans h_64.2 (by decide))⟩ ⟨(Int.le_trans (by decide) h_65.1), (Int.le_trans h_65.2 (by decide))⟩
    refine q_aload_n c_207_0 rfl (q_iconst c_207_1 (v_pi (z := 0) c_207_2 kf_8_3 rfl (Nat.le_of_ble_eq_true rfl) rfl rfl rfl (by decide) (q_aload_n c_207_5 rfl (q_iload_n c_207_6 rfl (v_cv c_207_7 km_8_381 rfl rfl (Nat.le_of_ble_eq_true rfl) ⟨⟨rfl, rfl⟩, Nat.le_of_ble_eq_true rfl, rfl⟩ (Nat.le_of_ble_eq_true rfl) (Nat.le_of_ble_eq_true rfl) (q_aload_n c_205_0 rfl (q_iload_n c_205_1 rfl ?_)))))))
    refine v_if_lt_f (t := 23) c_205_2 rfl ⟨by decide, by first | exact q_111774ab2 hq0 | omega, ha1.2⟩ (q_iload_n c_205_5 rfl (q_aload_n c_205_6 rfl (v_gi (z := 2) (v := t9) c_205_7 kf_8_99 rfl (Nat.le_of_ble_eq_true rfl) rfl rfl ((up_n (by decide)).trans (hr_t9)) (v_ic_gt_f (t := 23) c_205_10 rfl ⟨ha1.1, by first | exact q_3162967ed hq0 | omega, (Int.le_trans (rg_eq hg_t9 h_1).2 (by decide))⟩ (q_iload_n c_205_13 rfl (v_bip c_205_14 (by decide) (v_ic_gt_f (t := 23) c_205_16 rfl ⟨ha1.1, by first | exact q_fb30c34d4 hq0 | omega, by decide⟩ ?_)))))))
    refine q_iconst c_205_19 (q_goto (t := 24) c_205_20 rfl (q_iconst c_205_24 (q_iconst c_205_25 (v_cv c_205_26 km_8_203 rfl rfl (Nat.le_of_ble_eq_true rfl) ⟨⟨rfl, rfl⟩, Nat.le_of_ble_eq_true rfl, rfl⟩ (Nat.le_of_ble_eq_true rfl) (Nat.le_of_ble_eq_true rfl) (q_iload_n c_145_0 rfl (v_if_ne_t (t := 26) c_145_1 rfl (by decide) (q_aload_n c_145_26 rfl ?_)))))))
    refine v_gi (z := 0) (v := 0) c_145_27 kf_8_3 rfl (Nat.le_of_ble_eq_true rfl) rfl rfl (up_e rfl) (v_if_ne_f (t := 37) c_145_30 rfl (by decide) (q_iconst c_145_33 (q_goto (t := 38) c_145_34 rfl (v_zret c_145_38 rfl (by decide) (bk_inl (v_zret c_205_29 rfl (by decide) (bk_inl ?_)))))))
    refine v_if_ne_t (t := 15) c_207_10 rfl (by decide) (q_aload_n c_207_15 rfl (q_iload_n c_207_16 rfl ?_))
    have hI_67 := iw_41_0 (v := 0) hI ⟨by decide, by decide⟩
    refine v_cv c_207_17 km_8_207 rfl rfl (Nat.le_of_ble_eq_true rfl) ⟨⟨rfl, rfl⟩, Nat.le_of_ble_eq_true rfl, rfl⟩ (Nat.le_of_ble_eq_true rfl) (Nat.le_of_ble_eq_true rfl) (s_163 (a1 := a1) hI_67 (show 0 ≤ a1 ∧ a1 ≤ 600 from ⟨by first | exact q_111774ab2 hq0 | omega, by first | exact q_25be75120 hq0 | omega⟩) (fun c_68 hI_69 hF_70 h_71 => (bk_inl ?_)))
    have h_72 := ir_41_2 hI_69
    have h_73 := ir_41_3 hI_69
    have h_74 := ir_41_4 hI_69
    have h_75 := ir_41_5 hI_69
    have h_76 := ir_41_7 hI_69
    refine q_iconst c_207_20 (q_istore_n c_207_21 (Nat.le_of_ble_eq_true rfl) (q_iload_n c_207_22 rfl (q_iconst c_207_23 (v_ic_ge_f (t := 40) c_207_24 rfl (by decide) (q_aload_n c_207_27 rfl (v_gr (t := 63) c_207_28 kf_8_80 rfl (Nat.le_of_ble_eq_true rfl) rfl (q_iload_n c_207_31 rfl ?_)))))))
    refine q_iconst c_207_32 (v_is c_207_33 rfl (by decide) (by decide) (by decide) (v_iinc (v := 1) c_207_34 rfl (Nat.le_of_ble_eq_true rfl) (by decide) (q_goto (t := 22) c_207_37 rfl (q_iload_n c_207_22 rfl (q_iconst c_207_23 (v_ic_ge_f (t := 40) c_207_24 rfl (by decide) (q_aload_n c_207_27 rfl ?_)))))))
    refine v_gr (t := 63) c_207_28 kf_8_80 rfl (Nat.le_of_ble_eq_true rfl) rfl (q_iload_n c_207_31 rfl (q_iconst c_207_32 (v_is c_207_33 rfl (by decide) (by decide) (by decide) (v_iinc (v := 2) c_207_34 rfl (Nat.le_of_ble_eq_true rfl) (by decide) (q_goto (t := 22) c_207_37 rfl (q_iload_n c_207_22 rfl (q_iconst c_207_23 ?_)))))))
    refine v_ic_ge_f (t := 40) c_207_24 rfl (by decide) (q_aload_n c_207_27 rfl (v_gr (t := 63) c_207_28 kf_8_80 rfl (Nat.le_of_ble_eq_true rfl) rfl (q_iload_n c_207_31 rfl (q_iconst c_207_32 (v_is c_207_33 rfl (by decide) (by decide) (by decide) (v_iinc (v := 3) c_207_34 rfl (Nat.le_of_ble_eq_true rfl) (by decide) (q_goto (t := 22) c_207_37 rfl ?_)))))))
    refine q_iload_n c_207_22 rfl (q_iconst c_207_23 (v_ic_ge_f (t := 40) c_207_24 rfl (by decide) (q_aload_n c_207_27 rfl (v_gr (t := 63) c_207_28 kf_8_80 rfl (Nat.le_of_ble_eq_true rfl) rfl (q_iload_n c_207_31 rfl (q_iconst c_207_32 (v_is c_207_33 rfl (by decide) (by decide) (by decide) ?_)))))))
    refine v_iinc (v := 4) c_207_34 rfl (Nat.le_of_ble_eq_true rfl) (by decide) (Wp_ls [(2, vi 4), (0, .ref 41), (1, vi a1)] (lsub_cons rfl (lsub_cons rfl (lsub_cons rfl lsub_nil))) (q_goto (t := 22) c_207_37 rfl (q_iload_n c_207_22 rfl (q_iconst c_207_23 (v_ic_ge_t (t := 40) c_207_24 rfl (by decide) (q_iconst c_207_40 (q_istore_n c_207_41 (Nat.le_of_ble_eq_true rfl) ?_)))))))
    refine Wp_ls [(0, .ref 41), (1, vi a1), (2, vi 0)] (lsub_cons rfl (lsub_cons rfl (lsub_cons rfl lsub_nil))) ?_
    have hI_77 := iw_63 (j := 0) (v := (-1)) hI_69 ⟨by decide, by decide⟩
    have hI_78 := iw_63 (j := 1) (v := (-1)) hI_77 ⟨by decide, by decide⟩
    have hI_79 := iw_63 (j := 2) (v := (-1)) hI_78 ⟨by decide, by decide⟩
    have hI_80 := iw_63 (j := 3) (v := (-1)) hI_79 ⟨by decide, by decide⟩
    have h_81 : (up (up (up (up (up m 1 1 y_4) 1 2 0) 1 3 0) 1 4 0) 1 5 (-1)) 1 4 = 0 := ((up_n (by decide)).trans (up_e rfl))
    have h_82 : (up (up (up (up (up m 1 1 y_4) 1 2 0) 1 3 0) 1 4 0) 1 5 (-1)) 1 2 = 0 := ((up_n (by decide)).trans ((up_n (by decide)).trans ((up_n (by decide)).trans (up_e rfl))))
    have h_83 : (up (up (up (up (up m 1 1 y_4) 1 2 0) 1 3 0) 1 4 0) 1 5 (-1)) 1 5 = (-1) := (up_e rfl)
    have h_84 : (up (up (up (up c_68 63 0 (-1)) 63 1 (-1)) 63 2 (-1)) 63 3 (-1)) 41 5 = c_68 41 5 := ((up_c (nn rfl)).trans ((up_c (nn rfl)).trans ((up_c (nn rfl)).trans (up_c (nn rfl)))))
    have h_85 : (up (up (up (up c_68 63 0 (-1)) 63 1 (-1)) 63 2 (-1)) 63 3 (-1)) 41 4 = c_68 41 4 := ((up_c (nn rfl)).trans ((up_c (nn rfl)).trans ((up_c (nn rfl)).trans (up_c (nn rfl)))))
    have h_86 := ir_41_6 hI
    have kn_87 : Hid (c_68 41 6 = c 41 6) := (hF_70 41 6 qn_eb0d473e8).trans (up_n (by decide))
    have h_88 : (up (up (up (up c_68 63 0 (-1)) 63 1 (-1)) 63 2 (-1)) 63 3 (-1)) 41 6 = c 41 6 := ((up_c (nn rfl)).trans ((up_c (nn rfl)).trans ((up_c (nn rfl)).trans ((up_c (nn rfl)).trans (hid kn_87)))))
    refine L_36 (m := up (up (up (up (up m 1 1 y_4) 1 2 0) 1 3 0) 1 4 0) 1 5 (-1)) (a1 := a1) (e1 := y_4) (f0 := 0) (g0 := (-1)) (z0 := (-1)) (z1 := (-1)) (z2 := (-1)) (z3 := (-1)) (F := F) (H := H) hI_80 hI_9 hI_11 hP (show (-2147483648) ≤ a1 ∧ a1 ≤ 2147483647 from ha1) (by first | assumption | omega) (by first | assumption | omega) (by first | assumption | omega) (by first | assumption | omega) (by first | assumption | omega) (by first | assumption | omega) (((up_n (by decide)).trans ((up_n (by decide)).trans ((up_n (by decide)).trans ((up_n (by decide)).trans (up_e rfl)))))) (((show _ = c_68 41 3 from ((up_c (nn rfl)).trans ((up_c (nn rfl)).trans ((up_c (nn rfl)).trans (up_c (nn rfl)))))).trans (by first | assumption | exact Int.le_antisymm (by first | (clear ha1 h_1 hg_t9 h_2 hr_t9 h_14 h_15 h_16 h_63 h_64 h_65 h_66 h_72 h_73 h_74 h_75 h_76; omega) | omega) (by first | (clear ha1 hq0 h_1 hg_t9 h_2 hr_t9 h_14 h_15 h_16 h_63 h_64 h_65 h_66 h_72 h_73 h_74 h_75 h_76; omega) | omega)))) (((up_n (by decide)).trans (up_e rfl))) ((up_e rfl)) (((up_n (by decide)).trans ((up_n (by decide)).trans ((up_n (by decide)).trans (up_e rfl))))) (((up_n (by decide)).trans ((up_n (by decide)).trans (up_e rfl)))) (((up_n (by decide)).trans (up_e rfl))) ((up_e rfl)) (fun j => ((up_c (nn rfl)).trans ((up_c (nn rfl)).trans ((up_c (nn rfl)).trans ((up_c (nn rfl)).trans (up_c (nn rfl)))))).trans (hF j)) (fun j => ((up_c (nn rfl)).trans ((up_c (nn rfl)).trans ((up_c (nn rfl)).trans ((up_c (nn rfl)).trans ((hF_70 43 j qn_78d42cb5c).trans (up_c (nn rfl))))))).trans (hH j)) hU (rt_i1 ⟨by first | assumption | omega, by first | exact q_6d0a553af h_71 h_75 | omega, by first | exact q_a7ddc6b3b h_71 h_74 | omega, by first | assumption | omega⟩) hG_13 (fun c_89 y_92 hI_90 hF_91 hy_92 hR_93 h_94 => ?_)
    refine q_aload_n c_207_134 rfl (q_iload_n c_207_135 rfl (v_cv c_207_136 km_8_232 rfl rfl (Nat.le_of_ble_eq_true rfl) ⟨⟨rfl, rfl⟩, Nat.le_of_ble_eq_true rfl, rfl⟩ (Nat.le_of_ble_eq_true rfl) (Nat.le_of_ble_eq_true rfl) (q_aload_n c_164_0 rfl (q_aload_n c_164_1 rfl ?_))))
    have h_95 := ir_41_5 hI_90
    have h_96 := ir_1_2 hI_11
    have h_97 := ir_41_4 hI_90
    have h_98 := ir_41_6 hI_90
    have h_99 := rt_ok hR_93 (by first | exact q_163d1c5eb h_15 h_16 | omega)
    have hro_hR_93 := rt_ok hR_93 (by first | exact q_163d1c5eb h_15 h_16 | omega)
    refine v_gi (z := 5) (v := (-1)) c_164_2 kf_8_102 rfl (Nat.le_of_ble_eq_true rfl) rfl rfl hro_hR_93.2.1 (v_pi (z := 8) c_164_5 kf_8_17 rfl (Nat.le_of_ble_eq_true rfl) rfl rfl rfl (by decide) (q_aload_n c_164_8 rfl (v_cv c_164_9 km_8_131 rfl rfl (Nat.le_of_ble_eq_true rfl) ⟨⟨rfl, rfl⟩, Nat.le_of_ble_eq_true rfl, rfl⟩ (Nat.le_of_ble_eq_true rfl) (Nat.le_of_ble_eq_true rfl) (q_aload_n c_152_0 rfl (v_gi (z := 5) (v := (-1)) c_152_1 kf_8_102 rfl (Nat.le_of_ble_eq_true rfl) rfl rfl (((up_n (by decide))).trans (hro_hR_93.2.1)) (q_iconst c_152_4 (v_ic_ne_f (t := 12) c_152_5 rfl (by decide) ?_)))))))
    refine q_iconst c_152_8 (q_goto (t := 13) c_152_9 rfl (v_zret c_152_13 rfl (by decide) (bk_inl (v_if_eq_f (t := 19) c_164_12 rfl (by decide) (q_iload_n c_164_15 rfl (q_goto (t := 26) c_164_16 rfl (q_iret c_164_26 rfl ?_)))))))
    refine bk_inl (q_istore_n c_207_139 (Nat.le_of_ble_eq_true rfl) (q_aload_n c_207_140 rfl (v_gi (z := 5) (v := (-1)) c_207_141 kf_8_102 rfl (Nat.le_of_ble_eq_true rfl) rfl rfl (((up_n (by decide))).trans (hro_hR_93.2.1)) (q_iconst c_207_144 (v_ic_eq_t (t := 150) c_207_145 rfl (by decide) (q_aload_n c_207_150 rfl (q_iload_n c_207_151 rfl ?_)))))))
    refine v_pi (z := 48) c_207_152 kf_8_179 rfl (Nat.le_of_ble_eq_true rfl) rfl rfl rfl (by decide) (q_aload_n c_207_155 rfl (q_aload_n c_207_156 rfl (v_gr (t := 63) c_207_157 kf_8_80 rfl (Nat.le_of_ble_eq_true rfl) rfl (q_aload_n c_207_160 rfl (v_gr (t := 64) c_207_161 kf_8_83 rfl (Nat.le_of_ble_eq_true rfl) rfl (q_iconst c_207_164 (v_cv c_207_165 km_8_169 rfl rfl (Nat.le_of_ble_eq_true rfl) ⟨⟨rfl, rfl⟩, Nat.le_of_ble_eq_true rfl, rfl⟩ (Nat.le_of_ble_eq_true rfl) (Nat.le_of_ble_eq_true rfl) (s_148 (f := 63) (t := 64) (nf := 4) (nt := 4) (n := 4) rfl rfl (by decide) (by decide) (by decide) (by decide) (by decide) (by omega) ?_))))))))
    refine bk_inl (q_iload_n c_207_168 rfl (q_iret c_207_169 rfl ?_))
    have hI_100 := iw_41_8 (v := (-1)) hI_90 ⟨by decide, by decide⟩
    have hI_101 := iw_41_48 (v := y_92) hI_100 ⟨by first | (clear ha1 hq0 h_1 hg_t9 h_2 hr_t9 h_14 h_15 h_16 h_63 h_64 h_65 h_66 h_72 h_73 h_74 h_75 h_76 h_71 h_86 h_95 h_96 h_97 h_98 h_99 h_94; omega) | omega, by first | (clear ha1 hq0 h_1 hg_t9 h_2 hr_t9 h_14 h_15 h_16 h_63 h_64 h_65 h_66 h_72 h_73 h_74 h_75 h_76 h_71 h_86 h_95 h_96 h_97 h_98 h_99 h_94; omega) | omega⟩
    have hI_102 := cp_63_64 hI_101
    have kn_103 : Hid (c_89 41 2 = c_68 41 2) := (hF_91 41 2 qn_a3061adf4).trans ((up_c (nn rfl)).trans ((up_c (nn rfl)).trans ((up_c (nn rfl)).trans (up_c (nn rfl)))))
    have h_104 : (upc (up (up c_89 41 8 (-1)) 41 48 y_92) 63 0 64 0 4) 41 2 = c_68 41 2 := ((upc_c (by omega)).trans ((up_n (by decide)).trans ((up_n (by decide)).trans (hid kn_103))))
    have h_105 : (upc (up (up c_89 41 8 (-1)) 41 48 y_92) 63 0 64 0 4) 41 8 = (-1) := ((upc_c (by omega)).trans ((up_n (by decide)).trans (up_e rfl)))
    have kn_106 : Hid (c_68 41 0 = 0) := (hF_70 41 0 qn_18af663b8).trans (up_e rfl)
    have kn_107 : Hid (c_89 41 0 = 0) := (hF_91 41 0 qn_e8caa6fa3).trans ((up_c (nn rfl)).trans ((up_c (nn rfl)).trans ((up_c (nn rfl)).trans ((up_c (nn rfl)).trans (hid kn_106)))))
    have h_108 : (upc (up (up c_89 41 8 (-1)) 41 48 y_92) 63 0 64 0 4) 41 0 = 0 := ((upc_c (by omega)).trans ((up_n (by decide)).trans ((up_n (by decide)).trans (hid kn_107))))
    exact K (upc (up (up c_89 41 8 (-1)) 41 48 y_92) 63 0 64 0 4) y_92 hI_102 (fun a j hm => (upc_c (fun h => hm (Or.inr (Or.inr (Or.inr (Or.inr (Or.inr (Or.inr (Or.inr (Or.inr (Or.inr (Or.inr (Or.inr h))))))))))))).trans ((up_b (Decidable.or_iff_not_imp_left.mpr (fun h1 h2 => hm (Or.inr (Or.inr (Or.inr (Or.inr (Or.inr (Or.inr (Or.inr (Or.inr (Or.inr (Or.inl ⟨Decidable.not_not.mp h1, h2⟩))))))))))))).trans ((up_b (Decidable.or_iff_not_imp_left.mpr (fun h1 h2 => hm (Or.inr (Or.inr (Or.inr (Or.inr (Or.inr (Or.inr (Or.inr (Or.inr (Or.inl ⟨Decidable.not_not.mp h1, h2⟩)))))))))))).trans ((hF_91 a j (qv_03e0300b9 hm)).trans ((up_b (Decidable.or_iff_not_imp_left.mpr (fun h1 h2 => hm (Or.inr (Or.inr (Or.inr (Or.inr (Or.inr (Or.inr (Or.inr (Or.inr (Or.inr (Or.inr (Or.inl (Decidable.not_not.mp h1))))))))))))))).trans ((up_b (Decidable.or_iff_not_imp_left.mpr (fun h1 h2 => hm (Or.inr (Or.inr (Or.inr (Or.inr (Or.inr (Or.inr (Or.inr (Or.inr (Or.inr (Or.inr (Or.inl (Decidable.not_not.mp h1))))))))))))))).trans ((up_b (Decidable.or_iff_not_imp_left.mpr (fun h1 h2 => hm (Or.inr (Or.inr (Or.inr (Or.inr (Or.inr (Or.inr (Or.inr (Or.inr (Or.inr (Or.inr (Or.inl (Decidable.not_not.mp h1))))))))))))))).trans ((up_b (Decidable.or_iff_not_imp_left.mpr (fun h1 h2 => hm (Or.inr (Or.inr (Or.inr (Or.inr (Or.inr (Or.inr (Or.inr (Or.inr (Or.inr (Or.inr (Or.inl (Decidable.not_not.mp h1))))))))))))))).trans ((hF_70 a j (qv_6ad33b000 hm)).trans (up_b (Decidable.or_iff_not_imp_left.mpr (fun h1 h2 => hm (Or.inl ⟨Decidable.not_not.mp h1, h2⟩))))))))))))) ⟨by omega, by omega⟩ (by first | exact q_a172e8945 h_15 h_16 h_63 h_94 | omega) (by first | exact q_59baff7b3 h_71 h_72 | omega) (by first | exact q_019e65e0c h_65 h_66 h_99 | omega) (by first | assumption | omega)

set_option maxRecDepth 100000 in
set_option maxHeartbeats 4000000 in
theorem L_11_2 {sc : List Int32} {e eg : Int} {d dh u ug P Q P2 Q2 : Nat} {c m m9 : ME} {e1 a9 f0 : Int} {F H : Int → Int} {Z : AR → Prop} (hI : Iv u e P2 Q2 c) (hJ : Iv ug eg P Q m) (hJ9 : Iv ug eg P Q m9) (hg_e1 : m 1 1 = e1) (hr_e1 : c 41 3 = e1) (hg_a9 : m 1 2 = a9) (hg_f0 : m 1 4 = f0) (hF : ∀ j : Int, m 2 j = F j) (hH : ∀ j : Int, c 43 j = H j) (hU : Ub F H) (hRt : Rt m c) (hG : Wp sc (dh + 14) 11 0 [(0, .ref 1), (1, .ref (a_SB + 2))] [] (Wd P Q P P m) 0 0 (fun q => q = (.inl (none), Wd P Q P P m9, 0, 0))) (K : ∀ (c2 : ME), Iv u e P2 Q2 c2 → (∀ (a : Nat) (j : Int), ¬ ((a = 41 ∧ j = 4) ∨ (a = 41 ∧ j = 5) ∨ (a = 41 ∧ j = 6)) → c2 a j = c a j) → (Rt m9 c2) → ((m9 1 4 < 0) ∨ (m9 1 4 > 0) ∨ (m9 1 2 > a9 ∧ m9 1 2 ≤ e1)) → ((m9 1 4 < 0) ∨ (m9 1 4 > 0) ∨ (f0 = 0)) → Z (.inl (none), Wd P2 Q2 P2 P2 c2, 0, 0)) : Wp sc (d + 14) 161 0 [(0, .ref 41), (1, vi 41)] [] (Wd P2 Q2 P2 P2 c) 0 0 Z := by
  have hP := iv_P hJ
  have hQ := iv_Q hJ
  have h_1 := ir_1_1 hJ
  have h_2 := ir_41_3 hI
  have h_3 := ir_1_2 hJ
  have h_4 := ir_1_4 hJ
  refine gh hG ?_
  by_cases hs9 : m 1 4 = 0
  · skip
    have hs8 := (rt_ok hRt hs9).2.2.2
    refine q_aload_n c_11_0 rfl (v_cv c_11_1 km_5_45 rfl rfl (Nat.le_of_ble_eq_true rfl) ⟨⟨rfl, rfl⟩, Nat.le_of_ble_eq_true rfl, rfl⟩ (Nat.le_of_ble_eq_true rfl) (Nat.le_of_ble_eq_true rfl) (q_aload_n c_2_0 rfl (v_gi (z := 4) (v := 0) c_2_1 kf_5_38 rfl (Nat.le_of_ble_eq_true rfl) rfl rfl (hs9) (v_if_ne_f (t := 11) c_2_4 rfl (by decide) (q_iconst c_2_7 (q_goto (t := 12) c_2_8 rfl (v_zret c_2_12 rfl (by decide) ?_)))))))
    refine bk_inl (v_if_eq_f (t := 25) c_11_4 rfl (by decide) (q_aload_n c_11_7 rfl (q_aload_n c_11_8 rfl (v_cv c_11_9 km_5_65 rfl rfl (Nat.le_of_ble_eq_true rfl) ⟨⟨rfl, rfl⟩, Nat.le_of_ble_eq_true rfl, rfl⟩ (Nat.le_of_ble_eq_true rfl) (Nat.le_of_ble_eq_true rfl) (q_aload_n c_4_0 rfl ?_)))))
    have h_5 : -2147483648 ≤ (F a9) ∧ (F a9) ≤ 2147483647 := by rw [← hF a9]; exact ir_2 hJ a9
    have h_6 := nx_bd (b := F) (e := e1) (a := a9)
    have h_7 : -2147483648 ≤ (F (nx F e1 a9)) ∧ (F (nx F e1 a9)) ≤ 2147483647 := by rw [← hF (nx F e1 a9)]; exact ir_2 hJ (nx F e1 a9)
    have h_8 := nx_n (b := F) (e := e1) (a := a9)
    refine v_cv c_4_1 km_5_41 rfl rfl (Nat.le_of_ble_eq_true rfl) ⟨⟨rfl, rfl⟩, Nat.le_of_ble_eq_true rfl, rfl⟩ (Nat.le_of_ble_eq_true rfl) (Nat.le_of_ble_eq_true rfl) (f_3 (e1 := e1) (a9 := a9) (B := F) (r8 := (nx F e1 a9)) hJ ((hg_e1)) ((hg_a9)) (fun j => hF j) rfl (fun c_9 hI_10 hF_11 hz_12 => (bk_inl (q_istore_n c_4_4 (Nat.le_of_ble_eq_true rfl) (q_iconst c_4_5 (q_istore_n c_4_6 (Nat.le_of_ble_eq_true rfl) (q_iload_n c_4_7 rfl (q_aload_n c_4_8 rfl (v_sln 1 c_4_9 rfl (by omega) (Nat.le_of_ble_eq_true rfl) (by decide) (by decide) ?_)))))))))
    refine v_ic_ge_f (t := 55) c_4_12 rfl (by decide) (q_iload_n c_4_15 rfl (q_aload_n c_4_16 rfl ?_))
    have kn_13 : Hid (c_9 1 1 = e1) := (hF_11 1 1 (fun h => absurd h.2 (ni rfl))).trans (hg_e1)
    refine v_gi (z := 1) (v := e1) c_4_17 kf_5_32 rfl (Nat.le_of_ble_eq_true rfl) rfl rfl (hid kn_13) ?_
    by_cases h_14 : (nx F e1 a9) ≥ e1
    · refine v_ic_ge_t (t := 55) c_4_20 rfl ⟨(Int.le_trans (by decide) (rg_eq hg_e1 h_1).1), h_14, by first | exact q_b3bd846dd h_2 h_3 h_6 hg_a9 hr_e1 | omega⟩ (q_iconst c_4_55 (q_iret c_4_56 rfl (bk_inl (q_iconst c_11_12 (v_ic_ne_f (t := 25) c_11_13 rfl (by decide) (q_aload_n c_11_16 rfl (q_iconst c_11_17 ?_)))))))
      refine q_aload_n c_11_18 rfl (v_gi (z := 2) (v := (nx F e1 a9)) c_11_19 kf_5_35 rfl (Nat.le_of_ble_eq_true rfl) rfl rfl (hz_12) (v_cv c_11_22 km_5_52 rfl rfl (Nat.le_of_ble_eq_true rfl) ⟨⟨rfl, rfl⟩, Nat.le_of_ble_eq_true rfl, rfl⟩ (Nat.le_of_ble_eq_true rfl) (Nat.le_of_ble_eq_true rfl) (q_aload_n c_7_0 rfl ?_)))
      have kn_15 : Hid (c_9 1 4 = 0) := (hF_11 1 4 (fun h => absurd h.2 (ni rfl))).trans (hs9)
      refine v_gi (z := 4) (v := 0) c_7_1 kf_5_38 rfl (Nat.le_of_ble_eq_true rfl) rfl rfl (hid kn_15) (v_if_ne_f (t := 17) c_7_4 rfl (by decide) (q_aload_n c_7_7 rfl (q_iload_n c_7_8 rfl (v_pi (z := 4) c_7_9 kf_5_38 rfl (Nat.le_of_ble_eq_true rfl) rfl rfl rfl (by decide) (q_aload_n c_7_12 rfl (q_iload_n c_7_13 rfl (v_pi (z := 5) c_7_14 kf_5_15 rfl (Nat.le_of_ble_eq_true rfl) rfl rfl rfl (by decide) ?_)))))))
      refine q_vret rfl rfl (bk_inl (q_vret rfl rfl ?_))
      have hI_16 := iw_1_4 (v := 1) hI_10 ⟨by decide, by decide⟩
      have hI_17 := iw_1_5 (v := (nx F e1 a9)) hI_16 ⟨by first | exact q_e3021f629 h_3 h_6 hg_a9 | omega, by first | exact q_f657906b2 h_2 h_3 h_6 hg_a9 hr_e1 | omega⟩
      intro hE_18
      have hW : Wd P Q P P (up (up c_9 1 4 1) 1 5 (nx F e1 a9)) = Wd P Q P P m9 := (Prod.mk.inj (Prod.mk.inj hE_18).2).1
      have h_19 := ir_1_4 hJ9
      have h_20 : m9 1 4 = 1 := wd_fv (z := 4) 4 rfl hW rfl rfl rfl rfl (by decide) ((up_n (by decide)).trans (up_e rfl)) ⟨by decide, by decide⟩ ⟨(Int.le_trans (by decide) h_19.1), (Int.le_trans h_19.2 (by decide))⟩
      have h_21 := ir_1_2 hJ9
      have h_22 : m9 1 2 = (nx F e1 a9) := wd_fv (z := 2) 2 rfl hW rfl rfl rfl rfl (by decide) ((up_n (by decide)).trans ((up_n (by decide)).trans (hz_12))) ⟨by first | exact q_a3bce4abb h_3 h_6 hg_a9 | omega, by first | exact q_b3bd846dd h_2 h_3 h_6 hg_a9 hr_e1 | omega⟩ ⟨(Int.le_trans (by decide) h_21.1), (Int.le_trans h_21.2 (by decide))⟩
      have h_23 := ir_1_5 hJ9
      have h_24 : m9 1 5 = (nx F e1 a9) := wd_fv (z := 5) 5 rfl hW rfl rfl rfl rfl (by decide) (up_e rfl) ⟨by first | exact q_17990f574 h_21 h_22 | omega, by first | exact q_757c304f4 h_21 h_22 | omega⟩ ⟨(Int.le_trans (by decide) h_23.1), (Int.le_trans h_23.2 (by decide))⟩
      refine q_aload_n c_161_0 rfl (v_cv c_161_1 km_8_131 rfl rfl (Nat.le_of_ble_eq_true rfl) ⟨⟨rfl, rfl⟩, Nat.le_of_ble_eq_true rfl, rfl⟩ (Nat.le_of_ble_eq_true rfl) (Nat.le_of_ble_eq_true rfl) (q_aload_n c_152_0 rfl ?_))
      have h_25 := ir_41_5 hI
      have h_26 := ir_1_5 hJ
      have h_27 := ir_41_4 hI
      have h_28 := ir_41_6 hI
      have h_29 := rt_ok hRt (by first | (clear h_1 hg_e1 h_2 hr_e1 h_3 hg_a9 hg_f0 h_5 h_6 h_7 h_14 h_19 h_20 h_21 h_22 h_23 h_24 h_25 h_26 h_27 h_28 h_8; omega) | omega)
      have hro_hRt := rt_ok hRt (by first | assumption | omega)
      refine v_gi (z := 5) (v := (-1)) c_152_1 kf_8_102 rfl (Nat.le_of_ble_eq_true rfl) rfl rfl hro_hRt.2.1 (q_iconst c_152_4 (v_ic_ne_f (t := 12) c_152_5 rfl (by decide) (q_iconst c_152_8 (q_goto (t := 13) c_152_9 rfl (v_zret c_152_13 rfl (by decide) (bk_inl (v_if_eq_f (t := 24) c_161_4 rfl (by decide) ?_)))))))
      refine q_aload_n c_161_7 rfl ?_
      have h_30 : -2147483648 ≤ (H (nx F e1 a9)) ∧ (H (nx F e1 a9)) ≤ 2147483647 := by rw [← hH (nx F e1 a9)]; exact ir_43 hI (nx F e1 a9)
      have h_31 : (nx F e1 a9) < 600 → (H (nx F e1 a9)) = (F (nx F e1 a9)) % 256 ∧ -128 ≤ (F (nx F e1 a9)) ∧ (F (nx F e1 a9)) ≤ 127 := fun q => hU (nx F e1 a9) (by omega) q
      have h_32 := hb_or (b := H) (e := e1) (r := (nx F e1 a9))
      have h_33 := hb_bd (b := H) (e := e1) (r := (nx F e1 a9)) (lo := -2147483648) (hi := 2147483647) h_30 (by decide)
      refine v_cv c_161_8 km_8_114 rfl rfl (Nat.le_of_ble_eq_true rfl) ⟨⟨rfl, rfl⟩, Nat.le_of_ble_eq_true rfl, rfl⟩ (Nat.le_of_ble_eq_true rfl) (Nat.le_of_ble_eq_true rfl) (f_154 (e1 := e1) (a9 := a9) (B := H) (r8 := (nx F e1 a9)) (r := (hb H e1 (nx F e1 a9))) hI ((hr_e1)) (((hro_hRt.2.2.1).trans ((hg_a9)))) (fun j => hH j) ((nx_tr hU ((rg_eq hg_a9 h_3).1) ((rg_eq hg_e1 h_1).2)).trans (rfl)) rfl (fun c_34 hI_35 hF_36 h_37 => (bk_inl (q_iload_n c_161_11 rfl (v_ic_eq_f (t := 24) c_161_12 rfl ⟨by first | exact q_bc493783e h_14 h_32 | omega, ⟨h_33.1, h_33.2⟩, by decide, by decide⟩ (q_aload_n c_161_15 rfl (q_iconst c_161_16 (q_aload_n c_161_17 rfl (v_gi (z := 4) (v := (nx F e1 a9)) c_161_18 kf_8_108 rfl (Nat.le_of_ble_eq_true rfl) rfl rfl (h_37) ?_)))))))))
      refine v_cv c_161_21 km_8_138 rfl rfl (Nat.le_of_ble_eq_true rfl) ⟨⟨rfl, rfl⟩, Nat.le_of_ble_eq_true rfl, rfl⟩ (Nat.le_of_ble_eq_true rfl) (Nat.le_of_ble_eq_true rfl) (q_aload_n c_153_0 rfl ?_)
      have kn_38 : Hid (c_34 41 5 = (-1)) := (hF_36 41 5 (fun h => absurd h.2 (ni rfl))).trans hro_hRt.2.1
      refine v_gi (z := 5) (v := (-1)) c_153_1 kf_8_102 rfl (Nat.le_of_ble_eq_true rfl) rfl rfl (hid kn_38) (q_iconst c_153_4 (v_ic_eq_t (t := 9) c_153_5 rfl (by decide) (q_aload_n c_153_9 rfl (q_iload_n c_153_10 rfl (v_pi (z := 5) c_153_11 kf_8_102 rfl (Nat.le_of_ble_eq_true rfl) rfl rfl rfl (by decide) (q_aload_n c_153_14 rfl (q_iload_n c_153_15 rfl ?_)))))))
      refine v_pi (z := 6) c_153_16 kf_8_105 rfl (Nat.le_of_ble_eq_true rfl) rfl rfl rfl (by decide) (q_vret rfl rfl (bk_inl (q_aload_n c_161_24 rfl (v_cv c_161_25 km_8_131 rfl rfl (Nat.le_of_ble_eq_true rfl) ⟨⟨rfl, rfl⟩, Nat.le_of_ble_eq_true rfl, rfl⟩ (Nat.le_of_ble_eq_true rfl) (Nat.le_of_ble_eq_true rfl) (q_aload_n c_152_0 rfl (v_gi (z := 5) (v := (nx F e1 a9)) c_152_1 kf_8_102 rfl (Nat.le_of_ble_eq_true rfl) rfl rfl ((up_n (by decide)).trans (up_e rfl)) (q_iconst c_152_4 ?_)))))))
      refine v_ic_ne_t (t := 12) c_152_5 rfl ⟨by first | exact q_90762221b h_21 h_22 | omega, ⟨by first | exact q_17990f574 h_21 h_22 | omega, by first | exact q_757c304f4 h_21 h_22 | omega⟩, by decide, by decide⟩ (q_iconst c_152_12 (v_zret c_152_13 rfl (by decide) (bk_inl (v_if_eq_t (t := 41) c_161_28 rfl (by decide) (q_vret rfl rfl ?_)))))
      have hI_39 := iw_41_5 (v := (nx F e1 a9)) hI_35 ⟨by first | exact q_5ce231cbd h_21 h_22 | omega, by first | exact q_6094bb0fa h_23 h_24 | omega⟩
      have hI_40 := iw_41_6 (v := 1) hI_39 ⟨by decide, by decide⟩
      have h_41 : (up (up c_34 41 5 (nx F e1 a9)) 41 6 1) 41 5 = (nx F e1 a9) := ((up_n (by decide)).trans (up_e rfl))
      have h_42 : (up (up c_34 41 5 (nx F e1 a9)) 41 6 1) 41 4 = (nx F e1 a9) := ((up_n (by decide)).trans ((up_n (by decide)).trans (h_37)))
      have h_43 : (up (up c_34 41 5 (nx F e1 a9)) 41 6 1) 41 6 = 1 := (up_e rfl)
      exact K (up (up c_34 41 5 (nx F e1 a9)) 41 6 1)  hI_40 (fun a j hm => (up_b (Decidable.or_iff_not_imp_left.mpr (fun h1 h2 => hm (Or.inr (Or.inr ⟨Decidable.not_not.mp h1, h2⟩))))).trans ((up_b (Decidable.or_iff_not_imp_left.mpr (fun h1 h2 => hm (Or.inr (Or.inl ⟨Decidable.not_not.mp h1, h2⟩))))).trans (hF_36 a j (fun h => hm (Or.inl h))))) (rt_i2 ⟨⟨by first | exact q_5935f82f1 h_20 | omega, by first | exact q_63461c6bf h_20 | omega⟩, by first | exact q_88dc5fb99 h_24 | omega, by first | exact q_a060fbdd4 h_21 h_22 h_24 | omega, by first | exact q_69efb464e h_20 | omega⟩) (Or.inr (Or.inl (by first | exact q_e2d2b4ae2 h_20 | omega))) (Or.inr (Or.inl (by first | exact q_e2d2b4ae2 h_20 | omega)))
    · refine v_ic_ge_f (t := 55) c_4_20 rfl ⟨by first | exact q_a3bce4abb h_3 h_6 hg_a9 | omega, (Int.not_le.mp h_14), (Int.le_trans (rg_eq hg_e1 h_1).2 (by decide))⟩ (q_aload_n c_4_23 rfl (v_gr (t := 2) c_4_24 kf_5_9 rfl (Nat.le_of_ble_eq_true rfl) rfl (q_iload_n c_4_27 rfl ?_)))
      have kn_44 : Hid (c_9 2 (nx F e1 a9) = (F (nx F e1 a9))) := (hF_11 2 (nx F e1 a9) (fun h => absurd h.1 (nn rfl))).trans (hF (nx F e1 a9))
      refine v_ba (v := (F (nx F e1 a9))) c_4_28 rfl (by decide) (by decide) ⟨by first | exact q_828522d69 h_3 h_6 hg_a9 | omega, by first | exact q_b867e77c7 h_14 h_2 hr_e1 | omega⟩ (hid kn_44) (q_aload_n c_4_29 rfl (q_iload_n c_4_30 rfl (v_sch 41 c_4_31 rfl (by omega) (Nat.le_of_ble_eq_true rfl) (by decide) (by decide) (by decide) ?_)))
      by_cases h_45 : (F (nx F e1 a9)) ≠ 41
      · refine v_ic_ne_t (t := 49) c_4_34 rfl ⟨h_45, ⟨h_7.1, h_7.2⟩, by decide, by decide⟩ (v_iinc (v := 1) c_4_49 rfl (Nat.le_of_ble_eq_true rfl) (by decide) (q_goto (t := 7) c_4_52 rfl (q_iload_n c_4_7 rfl (q_aload_n c_4_8 rfl (v_sln 1 c_4_9 rfl (by omega) (Nat.le_of_ble_eq_true rfl) (by decide) (by decide) (v_ic_ge_t (t := 55) c_4_12 rfl (by decide) (q_iconst c_4_55 ?_)))))))
        refine q_iret c_4_56 rfl (bk_inl (q_iconst c_11_12 (v_ic_ne_f (t := 25) c_11_13 rfl (by decide) (q_aload_n c_11_16 rfl (q_iconst c_11_17 (q_aload_n c_11_18 rfl (v_gi (z := 2) (v := (nx F e1 a9)) c_11_19 kf_5_35 rfl (Nat.le_of_ble_eq_true rfl) rfl rfl (hz_12) ?_)))))))
        refine v_cv c_11_22 km_5_52 rfl rfl (Nat.le_of_ble_eq_true rfl) ⟨⟨rfl, rfl⟩, Nat.le_of_ble_eq_true rfl, rfl⟩ (Nat.le_of_ble_eq_true rfl) (Nat.le_of_ble_eq_true rfl) (q_aload_n c_7_0 rfl ?_)
        have kn_46 : Hid (c_9 1 4 = 0) := (hF_11 1 4 (fun h => absurd h.2 (ni rfl))).trans (hs9)
        refine v_gi (z := 4) (v := 0) c_7_1 kf_5_38 rfl (Nat.le_of_ble_eq_true rfl) rfl rfl (hid kn_46) (v_if_ne_f (t := 17) c_7_4 rfl (by decide) (q_aload_n c_7_7 rfl (q_iload_n c_7_8 rfl (v_pi (z := 4) c_7_9 kf_5_38 rfl (Nat.le_of_ble_eq_true rfl) rfl rfl rfl (by decide) (q_aload_n c_7_12 rfl (q_iload_n c_7_13 rfl (v_pi (z := 5) c_7_14 kf_5_15 rfl (Nat.le_of_ble_eq_true rfl) rfl rfl rfl (by decide) ?_)))))))
        refine q_vret rfl rfl (bk_inl (q_vret rfl rfl ?_))
        have hI_47 := iw_1_4 (v := 1) hI_10 ⟨by decide, by decide⟩
        have hI_48 := iw_1_5 (v := (nx F e1 a9)) hI_47 ⟨by first | exact q_e3021f629 h_3 h_6 hg_a9 | omega, by first | exact q_15401fa7c h_14 h_2 hr_e1 | omega⟩
        intro hE_49
        have hW : Wd P Q P P (up (up c_9 1 4 1) 1 5 (nx F e1 a9)) = Wd P Q P P m9 := (Prod.mk.inj (Prod.mk.inj hE_49).2).1
        have h_50 := ir_1_4 hJ9
        have h_51 : m9 1 4 = 1 := wd_fv (z := 4) 4 rfl hW rfl rfl rfl rfl (by decide) ((up_n (by decide)).trans (up_e rfl)) ⟨by decide, by decide⟩ ⟨(Int.le_trans (by decide) h_50.1), (Int.le_trans h_50.2 (by decide))⟩
        have h_52 := ir_1_2 hJ9
        have h_53 : m9 1 2 = (nx F e1 a9) := wd_fv (z := 2) 2 rfl hW rfl rfl rfl rfl (by decide) ((up_n (by decide)).trans ((up_n (by decide)).trans (hz_12))) ⟨by first | exact q_a3bce4abb h_3 h_6 hg_a9 | omega, by first | exact q_2e6ee4ea6 h_14 h_2 hr_e1 | omega⟩ ⟨(Int.le_trans (by decide) h_52.1), (Int.le_trans h_52.2 (by decide))⟩
        have h_54 := ir_1_5 hJ9
        have h_55 : m9 1 5 = (nx F e1 a9) := wd_fv (z := 5) 5 rfl hW rfl rfl rfl rfl (by decide) (up_e rfl) ⟨by first | exact q_17990f574 h_52 h_53 | omega, by first | exact q_757c304f4 h_52 h_53 | omega⟩ ⟨(Int.le_trans (by decide) h_54.1), (Int.le_trans h_54.2 (by decide))⟩
        refine q_aload_n c_161_0 rfl (v_cv c_161_1 km_8_131 rfl rfl (Nat.le_of_ble_eq_true rfl) ⟨⟨rfl, rfl⟩, Nat.le_of_ble_eq_true rfl, rfl⟩ (Nat.le_of_ble_eq_true rfl) (Nat.le_of_ble_eq_true rfl) (q_aload_n c_152_0 rfl ?_))
        have h_56 := ir_41_5 hI
        have h_57 := ir_1_5 hJ
        have h_58 := ir_41_4 hI
        have h_59 := ir_41_6 hI
        have h_60 := rt_ok hRt (by first | (clear h_1 hg_e1 h_2 hr_e1 h_3 hg_a9 hg_f0 h_5 h_6 h_7 h_14 h_50 h_51 h_52 h_53 h_54 h_55 h_56 h_57 h_58 h_59 h_8 h_45; omega) | omega)
        have hro_hRt := rt_ok hRt (by first | assumption | omega)
        refine v_gi (z := 5) (v := (-1)) c_152_1 kf_8_102 rfl (Nat.le_of_ble_eq_true rfl) rfl rfl hro_hRt.2.1 (q_iconst c_152_4 (v_ic_ne_f (t := 12) c_152_5 rfl (by decide) (q_iconst c_152_8 (q_goto (t := 13) c_152_9 rfl (v_zret c_152_13 rfl (by decide) (bk_inl (v_if_eq_f (t := 24) c_161_4 rfl (by decide) ?_)))))))
        refine q_aload_n c_161_7 rfl ?_
        have h_61 : -2147483648 ≤ (H (nx F e1 a9)) ∧ (H (nx F e1 a9)) ≤ 2147483647 := by rw [← hH (nx F e1 a9)]; exact ir_43 hI (nx F e1 a9)
        have h_62 := hU (nx F e1 a9) (by first | exact q_4ad75e8a2 h_52 h_53 | omega) (by first | exact q_b867e77c7 h_14 h_2 hr_e1 | omega)
        have h_63 := hb_or (b := H) (e := e1) (r := (nx F e1 a9))
        have h_64 := hb_bd (b := H) (e := e1) (r := (nx F e1 a9)) (lo := -2147483648) (hi := 2147483647) h_61 (by decide)
        refine v_cv c_161_8 km_8_114 rfl rfl (Nat.le_of_ble_eq_true rfl) ⟨⟨rfl, rfl⟩, Nat.le_of_ble_eq_true rfl, rfl⟩ (Nat.le_of_ble_eq_true rfl) (Nat.le_of_ble_eq_true rfl) (f_154 (e1 := e1) (a9 := a9) (B := H) (r8 := (nx F e1 a9)) (r := (hb H e1 (nx F e1 a9))) hI ((hr_e1)) (((hro_hRt.2.2.1).trans ((hg_a9)))) (fun j => hH j) ((nx_tr hU ((rg_eq hg_a9 h_3).1) ((rg_eq hg_e1 h_1).2)).trans (rfl)) rfl (fun c_65 hI_66 hF_67 h_68 => (bk_inl (q_iload_n c_161_11 rfl (v_ic_eq_f (t := 24) c_161_12 rfl ⟨by first | (clear h_1 hg_e1 h_2 hr_e1 h_3 hg_a9 h_4 hg_f0 h_5 h_6 h_7 h_14 h_50 h_51 h_52 h_53 h_54 h_55 h_56 h_57 h_58 h_59 h_60 h_61 h_64 h_8; omega) | omega, ⟨h_64.1, h_64.2⟩, by decide, by decide⟩ (q_aload_n c_161_15 rfl (q_iconst c_161_16 (q_aload_n c_161_17 rfl (v_gi (z := 4) (v := (nx F e1 a9)) c_161_18 kf_8_108 rfl (Nat.le_of_ble_eq_true rfl) rfl rfl (h_68) ?_)))))))))
        refine v_cv c_161_21 km_8_138 rfl rfl (Nat.le_of_ble_eq_true rfl) ⟨⟨rfl, rfl⟩, Nat.le_of_ble_eq_true rfl, rfl⟩ (Nat.le_of_ble_eq_true rfl) (Nat.le_of_ble_eq_true rfl) (q_aload_n c_153_0 rfl ?_)
        have kn_69 : Hid (c_65 41 5 = (-1)) := (hF_67 41 5 (fun h => absurd h.2 (ni rfl))).trans hro_hRt.2.1
        refine v_gi (z := 5) (v := (-1)) c_153_1 kf_8_102 rfl (Nat.le_of_ble_eq_true rfl) rfl rfl (hid kn_69) (q_iconst c_153_4 (v_ic_eq_t (t := 9) c_153_5 rfl (by decide) (q_aload_n c_153_9 rfl (q_iload_n c_153_10 rfl (v_pi (z := 5) c_153_11 kf_8_102 rfl (Nat.le_of_ble_eq_true rfl) rfl rfl rfl (by decide) (q_aload_n c_153_14 rfl (q_iload_n c_153_15 rfl ?_)))))))
        refine v_pi (z := 6) c_153_16 kf_8_105 rfl (Nat.le_of_ble_eq_true rfl) rfl rfl rfl (by decide) (q_vret rfl rfl (bk_inl (q_aload_n c_161_24 rfl (v_cv c_161_25 km_8_131 rfl rfl (Nat.le_of_ble_eq_true rfl) ⟨⟨rfl, rfl⟩, Nat.le_of_ble_eq_true rfl, rfl⟩ (Nat.le_of_ble_eq_true rfl) (Nat.le_of_ble_eq_true rfl) (q_aload_n c_152_0 rfl (v_gi (z := 5) (v := (nx F e1 a9)) c_152_1 kf_8_102 rfl (Nat.le_of_ble_eq_true rfl) rfl rfl ((up_n (by decide)).trans (up_e rfl)) (q_iconst c_152_4 ?_)))))))
        refine v_ic_ne_t (t := 12) c_152_5 rfl ⟨by first | exact q_90762221b h_52 h_53 | omega, ⟨by first | exact q_17990f574 h_52 h_53 | omega, by first | exact q_783468581 h_54 h_55 | omega⟩, by decide, by decide⟩ (q_iconst c_152_12 (v_zret c_152_13 rfl (by decide) (bk_inl (v_if_eq_t (t := 41) c_161_28 rfl (by decide) (q_vret rfl rfl ?_)))))
        have hI_70 := iw_41_5 (v := (nx F e1 a9)) hI_66 ⟨by first | exact q_5ce231cbd h_52 h_53 | omega, by first | exact q_deaeab841 h_52 h_53 | omega⟩
        have hI_71 := iw_41_6 (v := 1) hI_70 ⟨by decide, by decide⟩
        have h_72 : (up (up c_65 41 5 (nx F e1 a9)) 41 6 1) 41 5 = (nx F e1 a9) := ((up_n (by decide)).trans (up_e rfl))
        have h_73 : (up (up c_65 41 5 (nx F e1 a9)) 41 6 1) 41 4 = (nx F e1 a9) := ((up_n (by decide)).trans ((up_n (by decide)).trans (h_68)))
        have h_74 : (up (up c_65 41 5 (nx F e1 a9)) 41 6 1) 41 6 = 1 := (up_e rfl)
        exact K (up (up c_65 41 5 (nx F e1 a9)) 41 6 1)  hI_71 (fun a j hm => (up_b (Decidable.or_iff_not_imp_left.mpr (fun h1 h2 => hm (Or.inr (Or.inr ⟨Decidable.not_not.mp h1, h2⟩))))).trans ((up_b (Decidable.or_iff_not_imp_left.mpr (fun h1 h2 => hm (Or.inr (Or.inl ⟨Decidable.not_not.mp h1, h2⟩))))).trans (hF_67 a j (fun h => hm (Or.inl h))))) (rt_i2 ⟨⟨by first | exact q_5935f82f1 h_51 | omega, by first | exact q_63461c6bf h_51 | omega⟩, by first | exact q_88dc5fb99 h_55 | omega, by first | exact q_a060fbdd4 h_52 h_53 h_55 | omega, by first | exact q_69efb464e h_51 | omega⟩) (Or.inr (Or.inl (by first | exact q_e2d2b4ae2 h_51 | omega))) (Or.inr (Or.inl (by first | exact q_e2d2b4ae2 h_51 | omega)))
      · refine v_ic_ne_f (t := 49) c_4_34 rfl (Decidable.not_not.mp h_45) (q_aload_n c_4_37 rfl (q_dup c_4_38 rfl (v_gi (z := 2) (v := (nx F e1 a9)) c_4_39 kf_5_35 rfl (Nat.le_of_ble_eq_true rfl) rfl rfl (hz_12) (q_iconst c_4_42 (v_iadd (v := (nx F e1 a9) + 1) c_4_43 rfl (v_pi (z := 2) c_4_44 kf_5_35 rfl (Nat.le_of_ble_eq_true rfl) rfl rfl rfl (by decide) (q_iload_n c_4_47 rfl ?_)))))))
        refine q_iret c_4_48 rfl (bk_inl (q_iconst c_11_12 (v_ic_ne_t (t := 25) c_11_13 rfl (by decide) (q_vret rfl rfl ?_))))
        have hI_75 := iw_1_2 (v := (nx F e1 a9) + 1) hI_10 ⟨by first | exact q_e260493d5 h_3 h_6 hg_a9 | omega, by first | exact q_6ea34058e h_14 h_2 hr_e1 | omega⟩
        intro hE_76
        have hW : Wd P Q P P (up c_9 1 2 ((nx F e1 a9) + 1)) = Wd P Q P P m9 := (Prod.mk.inj (Prod.mk.inj hE_76).2).1
        have kn_77 : Hid (c_9 1 4 = 0) := (hF_11 1 4 (fun h => absurd h.2 (ni rfl))).trans (hs9)
        have h_78 := ir_1_4 hJ9
        have h_79 : m9 1 4 = 0 := wd_fv (z := 4) 4 rfl hW rfl rfl rfl rfl (by decide) ((up_n (by decide)).trans (hid kn_77)) ⟨by decide, by decide⟩ ⟨(Int.le_trans (by decide) h_78.1), (Int.le_trans h_78.2 (by decide))⟩
        have h_80 := ir_1_2 hJ9
        have h_81 : m9 1 2 = (nx F e1 a9) + 1 := wd_fv (z := 2) 2 rfl hW rfl rfl rfl rfl (by decide) (up_e rfl) ⟨by first | exact q_86633cc1b h_3 h_6 hg_a9 | omega, by first | exact q_1da59465c h_14 h_2 hr_e1 | omega⟩ ⟨(Int.le_trans (by decide) h_80.1), (Int.le_trans h_80.2 (by decide))⟩
        have kn_82 : Hid (c_9 1 5 = (-1)) := (hF_11 1 5 (fun h => absurd h.2 (ni rfl))).trans (hs8)
        have h_83 := ir_1_5 hJ9
        have h_84 : m9 1 5 = (-1) := wd_fv (z := 5) 5 rfl hW rfl rfl rfl rfl (by decide) ((up_n (by decide)).trans (hid kn_82)) ⟨by decide, by decide⟩ ⟨(Int.le_trans (by decide) h_83.1), (Int.le_trans h_83.2 (by decide))⟩
        refine q_aload_n c_161_0 rfl (v_cv c_161_1 km_8_131 rfl rfl (Nat.le_of_ble_eq_true rfl) ⟨⟨rfl, rfl⟩, Nat.le_of_ble_eq_true rfl, rfl⟩ (Nat.le_of_ble_eq_true rfl) (Nat.le_of_ble_eq_true rfl) (q_aload_n c_152_0 rfl ?_))
        have h_85 := ir_41_5 hI
        have h_86 := ir_1_5 hJ
        have h_87 := ir_41_4 hI
        have h_88 := ir_41_6 hI
        have h_89 := rt_ok hRt (by first | (clear h_1 hg_e1 h_2 hr_e1 h_3 hg_a9 hg_f0 h_5 h_6 h_7 h_14 h_45 h_78 h_79 h_80 h_81 h_83 h_84 h_85 h_86 h_87 h_88 h_8; omega) | omega)
        have hro_hRt := rt_ok hRt (by first | assumption | omega)
        refine v_gi (z := 5) (v := (-1)) c_152_1 kf_8_102 rfl (Nat.le_of_ble_eq_true rfl) rfl rfl hro_hRt.2.1 (q_iconst c_152_4 (v_ic_ne_f (t := 12) c_152_5 rfl (by decide) (q_iconst c_152_8 (q_goto (t := 13) c_152_9 rfl (v_zret c_152_13 rfl (by decide) (bk_inl (v_if_eq_f (t := 24) c_161_4 rfl (by decide) ?_)))))))
        refine q_aload_n c_161_7 rfl ?_
        have h_90 : -2147483648 ≤ (H (nx F e1 a9)) ∧ (H (nx F e1 a9)) ≤ 2147483647 := by rw [← hH (nx F e1 a9)]; exact ir_43 hI (nx F e1 a9)
        have h_91 := hU (nx F e1 a9) (by first | exact q_828522d69 h_3 h_6 hg_a9 | omega) (by first | exact q_b03d63f6f h_80 h_81 | omega)
        have h_92 := hb_or (b := H) (e := e1) (r := (nx F e1 a9))
        have h_93 := hb_bd (b := H) (e := e1) (r := (nx F e1 a9)) (lo := -2147483648) (hi := 2147483647) h_90 (by decide)
        refine v_cv c_161_8 km_8_114 rfl rfl (Nat.le_of_ble_eq_true rfl) ⟨⟨rfl, rfl⟩, Nat.le_of_ble_eq_true rfl, rfl⟩ (Nat.le_of_ble_eq_true rfl) (Nat.le_of_ble_eq_true rfl) (f_154 (e1 := e1) (a9 := a9) (B := H) (r8 := (nx F e1 a9)) (r := (hb H e1 (nx F e1 a9))) hI ((hr_e1)) (((hro_hRt.2.2.1).trans ((hg_a9)))) (fun j => hH j) ((nx_tr hU ((rg_eq hg_a9 h_3).1) ((rg_eq hg_e1 h_1).2)).trans (rfl)) rfl (fun c_94 hI_95 hF_96 h_97 => (bk_inl (q_iload_n c_161_11 rfl (v_ic_eq_t (t := 24) c_161_12 rfl (by first | (clear h_1 hg_e1 h_2 hr_e1 h_3 hg_a9 h_4 hg_f0 h_5 h_6 h_7 h_78 h_79 h_80 h_81 h_83 h_84 h_85 h_86 h_87 h_88 h_89 h_90 h_93 h_8; omega) | omega) (q_aload_n c_161_24 rfl (v_cv c_161_25 km_8_131 rfl rfl (Nat.le_of_ble_eq_true rfl) ⟨⟨rfl, rfl⟩, Nat.le_of_ble_eq_true rfl, rfl⟩ (Nat.le_of_ble_eq_true rfl) (Nat.le_of_ble_eq_true rfl) (q_aload_n c_152_0 rfl ?_))))))))
        have kn_98 : Hid (c_94 41 5 = (-1)) := (hF_96 41 5 (fun h => absurd h.2 (ni rfl))).trans hro_hRt.2.1
        refine v_gi (z := 5) (v := (-1)) c_152_1 kf_8_102 rfl (Nat.le_of_ble_eq_true rfl) rfl rfl (hid kn_98) (q_iconst c_152_4 (v_ic_ne_f (t := 12) c_152_5 rfl (by decide) (q_iconst c_152_8 (q_goto (t := 13) c_152_9 rfl (v_zret c_152_13 rfl (by decide) (bk_inl (v_if_eq_f (t := 41) c_161_28 rfl (by decide) ?_)))))))
        refine q_aload_n c_161_31 rfl (q_dup c_161_32 rfl (v_gi (z := 4) (v := (nx F e1 a9)) c_161_33 kf_8_108 rfl (Nat.le_of_ble_eq_true rfl) rfl rfl (h_97) (q_iconst c_161_36 (v_iadd (v := (nx F e1 a9) + 1) c_161_37 rfl (v_pi (z := 4) c_161_38 kf_8_108 rfl (Nat.le_of_ble_eq_true rfl) rfl rfl rfl (by decide) (q_vret rfl rfl ?_))))))
        have hI_99 := iw_41_4 (v := (nx F e1 a9) + 1) hI_95 ⟨by first | exact q_e260493d5 h_3 h_6 hg_a9 | omega, by first | exact q_369ecf7f1 h_80 h_81 | omega⟩
        have h_100 : (up c_94 41 4 ((nx F e1 a9) + 1)) 41 5 = (-1) := ((up_n (by decide)).trans (hid kn_98))
        have h_101 : (up c_94 41 4 ((nx F e1 a9) + 1)) 41 4 = (nx F e1 a9) + 1 := (up_e rfl)
        have kn_102 : Hid (c_94 41 6 = c 41 6) := hF_96 41 6 (fun h => absurd h.2 (ni rfl))
        have h_103 : (up c_94 41 4 ((nx F e1 a9) + 1)) 41 6 = c 41 6 := ((up_n (by decide)).trans (hid kn_102))
        exact K (up c_94 41 4 ((nx F e1 a9) + 1))  hI_99 (fun a j hm => (up_b (Decidable.or_iff_not_imp_left.mpr (fun h1 h2 => hm (Or.inl ⟨Decidable.not_not.mp h1, h2⟩)))).trans (hF_96 a j (fun h => hm (Or.inl h)))) (rt_i1 ⟨by first | exact q_f6b658f58 h_78 h_79 | omega, by first | assumption | omega, by first | exact q_58a890de0 h_81 | omega, by first | exact q_f39655ca6 h_83 h_84 | omega⟩) (Or.inr (Or.inr ⟨by first | exact q_1caa53e22 h_6 h_81 | omega, by first | exact q_639ed28ca h_14 h_81 | omega⟩)) (Or.inr (Or.inr (by first | (clear h_1 hg_e1 h_2 hr_e1 h_3 hg_a9 h_5 h_6 h_7 h_14 h_45 h_78 h_79 h_80 h_81 h_83 h_84 h_85 h_86 h_87 h_88 h_89 h_90 h_91 h_93 h_8 h_92; omega) | omega)))
  · skip
    refine q_aload_n c_11_0 rfl (v_cv c_11_1 km_5_45 rfl rfl (Nat.le_of_ble_eq_true rfl) ⟨⟨rfl, rfl⟩, Nat.le_of_ble_eq_true rfl, rfl⟩ (Nat.le_of_ble_eq_true rfl) (Nat.le_of_ble_eq_true rfl) (q_aload_n c_2_0 rfl (v_gi (z := 4) (v := f0) c_2_1 kf_5_38 rfl (Nat.le_of_ble_eq_true rfl) rfl rfl (hg_f0) (v_if_ne_t (t := 11) c_2_4 rfl ⟨by omega, ⟨(Int.le_trans (by decide) (rg_eq hg_f0 h_4).1), (Int.le_trans (rg_eq hg_f0 h_4).2 (by decide))⟩, by decide, by decide⟩ (q_iconst c_2_11 (v_zret c_2_12 rfl (by decide) (bk_inl ?_)))))))
    refine v_if_eq_t (t := 25) c_11_4 rfl (by decide) (q_vret rfl rfl ?_)
    intro hE_104
    have hW : Wd P Q P P m = Wd P Q P P m9 := (Prod.mk.inj (Prod.mk.inj hE_104).2).1
    have h_105 := ir_1_4 hJ9
    have h_106 : m9 1 4 = f0 := wd_fv (z := 4) 4 rfl hW rfl rfl rfl rfl (by decide) (hg_f0) ⟨(Int.le_trans (by decide) (rg_eq hg_f0 h_4).1), (Int.le_trans (rg_eq hg_f0 h_4).2 (by decide))⟩ ⟨(Int.le_trans (by decide) h_105.1), (Int.le_trans h_105.2 (by decide))⟩
    have h_107 := ir_1_2 hJ9
    have h_108 : m9 1 2 = a9 := wd_fv (z := 2) 2 rfl hW rfl rfl rfl rfl (by decide) (hg_a9) ⟨(Int.le_trans (by decide) (rg_eq hg_a9 h_3).1), (Int.le_trans (rg_eq hg_a9 h_3).2 (by decide))⟩ ⟨(Int.le_trans (by decide) h_107.1), (Int.le_trans h_107.2 (by decide))⟩
    have h_109 := ir_1_5 hJ
    have h_110 := ir_1_5 hJ9
    have h_111 : m9 1 5 = m 1 5 := wd_fv (z := 5) 5 rfl hW rfl rfl rfl rfl (by decide) rfl ⟨(Int.le_trans (by decide) h_109.1), (Int.le_trans h_109.2 (by decide))⟩ ⟨(Int.le_trans (by decide) h_110.1), (Int.le_trans h_110.2 (by decide))⟩
    refine q_aload_n c_161_0 rfl (v_cv c_161_1 km_8_131 rfl rfl (Nat.le_of_ble_eq_true rfl) ⟨⟨rfl, rfl⟩, Nat.le_of_ble_eq_true rfl, rfl⟩ (Nat.le_of_ble_eq_true rfl) (Nat.le_of_ble_eq_true rfl) (q_aload_n c_152_0 rfl ?_))
    have h_112 := ir_41_5 hI
    have h_113 := ir_41_4 hI
    have h_114 := ir_41_6 hI
    have h_115 := rt_bad hRt (by first | (clear h_1 hg_e1 h_2 hr_e1 h_3 hg_a9 h_4 hg_f0 h_105 h_106 h_107 h_108 h_109 h_110 h_111 h_112 h_113 h_114; omega) | omega)
    have hrb_hRt := rt_bad hRt (by first | exact q_5e082ea92 h_115 hg_f0 | omega)
    refine v_gi (z := 5) (v := m 1 5) c_152_1 kf_8_102 rfl (Nat.le_of_ble_eq_true rfl) rfl rfl hrb_hRt.2.1 (q_iconst c_152_4 (v_ic_ne_t (t := 12) c_152_5 rfl ⟨by first | exact q_0f78863d3 h_115 | omega, ⟨(Int.le_trans (by decide) h_109.1), (Int.le_trans h_109.2 (by decide))⟩, by decide, by decide⟩ (q_iconst c_152_12 (v_zret c_152_13 rfl (by decide) (bk_inl (v_if_eq_t (t := 24) c_161_4 rfl (by decide) (q_aload_n c_161_24 rfl ?_)))))))
    refine v_cv c_161_25 km_8_131 rfl rfl (Nat.le_of_ble_eq_true rfl) ⟨⟨rfl, rfl⟩, Nat.le_of_ble_eq_true rfl, rfl⟩ (Nat.le_of_ble_eq_true rfl) (Nat.le_of_ble_eq_true rfl) (q_aload_n c_152_0 rfl (v_gi (z := 5) (v := m 1 5) c_152_1 kf_8_102 rfl (Nat.le_of_ble_eq_true rfl) rfl rfl hrb_hRt.2.1 (q_iconst c_152_4 (v_ic_ne_t (t := 12) c_152_5 rfl ⟨by first | exact q_0f78863d3 h_115 | omega, ⟨(Int.le_trans (by decide) h_109.1), (Int.le_trans h_109.2 (by decide))⟩, by decide, by decide⟩ (q_iconst c_152_12 (v_zret c_152_13 rfl (by decide) (bk_inl ?_)))))))
    refine v_if_eq_t (t := 41) c_161_28 rfl (by decide) (q_vret rfl rfl ?_)
    have h_116 : c 41 5 = m 1 5 := hrb_hRt.2.1
    have h_117 : c 41 6 = f0 := ((hrb_hRt.2.2.2).trans ((hg_f0)))
    exact K c  hI (fun a j hm => rfl) (rt_i2 ⟨⟨by first | exact q_3b8ab523e h_106 h_115 hg_f0 | omega, by first | exact q_c99d6ea93 h_105 | omega⟩, by first | exact q_88dc5fb99 h_111 | omega, by first | exact q_cb71117a2 h_111 h_115 | omega, by first | exact q_88dc5fb99 h_106 | omega⟩) (Or.inr (Or.inl (by first | exact q_2ce17e943 h_106 h_115 hg_f0 | omega))) (Or.inr (Or.inl (by first | exact q_2ce17e943 h_106 h_115 hg_f0 | omega)))

set_option maxRecDepth 100000 in
set_option maxHeartbeats 4000000 in
theorem L_11_3 {sc : List Int32} {e eg : Int} {d dh u ug P Q P2 Q2 : Nat} {c m m9 : ME} {e1 a9 f0 : Int} {F H : Int → Int} {Z : AR → Prop} (hI : Iv u e P2 Q2 c) (hJ : Iv ug eg P Q m) (hJ9 : Iv ug eg P Q m9) (hg_e1 : m 1 1 = e1) (hr_e1 : c 41 3 = e1) (hg_a9 : m 1 2 = a9) (hg_f0 : m 1 4 = f0) (hF : ∀ j : Int, m 2 j = F j) (hH : ∀ j : Int, c 43 j = H j) (hU : Ub F H) (hRt : Rt m c) (hG : Wp sc (dh + 14) 11 0 [(0, .ref 1), (1, .ref (a_SB + 3))] [] (Wd P Q P P m) 0 0 (fun q => q = (.inl (none), Wd P Q P P m9, 0, 0))) (K : ∀ (c2 : ME), Iv u e P2 Q2 c2 → (∀ (a : Nat) (j : Int), ¬ ((a = 41 ∧ j = 4) ∨ (a = 41 ∧ j = 5) ∨ (a = 41 ∧ j = 6)) → c2 a j = c a j) → (Rt m9 c2) → ((m9 1 4 < 0) ∨ (m9 1 4 > 0) ∨ (m9 1 2 > a9 ∧ m9 1 2 ≤ e1)) → ((m9 1 4 < 0) ∨ (m9 1 4 > 0) ∨ (f0 = 0)) → Z (.inl (none), Wd P2 Q2 P2 P2 c2, 0, 0)) : Wp sc (d + 14) 161 0 [(0, .ref 41), (1, vi 91)] [] (Wd P2 Q2 P2 P2 c) 0 0 Z := by
  have hP := iv_P hJ
  have hQ := iv_Q hJ
  have h_1 := ir_1_1 hJ
  have h_2 := ir_41_3 hI
  have h_3 := ir_1_2 hJ
  have h_4 := ir_1_4 hJ
  refine gh hG ?_
  by_cases hs9 : m 1 4 = 0
  · skip
    have hs8 := (rt_ok hRt hs9).2.2.2
    refine q_aload_n c_11_0 rfl (v_cv c_11_1 km_5_45 rfl rfl (Nat.le_of_ble_eq_true rfl) ⟨⟨rfl, rfl⟩, Nat.le_of_ble_eq_true rfl, rfl⟩ (Nat.le_of_ble_eq_true rfl) (Nat.le_of_ble_eq_true rfl) (q_aload_n c_2_0 rfl (v_gi (z := 4) (v := 0) c_2_1 kf_5_38 rfl (Nat.le_of_ble_eq_true rfl) rfl rfl (hs9) (v_if_ne_f (t := 11) c_2_4 rfl (by decide) (q_iconst c_2_7 (q_goto (t := 12) c_2_8 rfl (v_zret c_2_12 rfl (by decide) ?_)))))))
    refine bk_inl (v_if_eq_f (t := 25) c_11_4 rfl (by decide) (q_aload_n c_11_7 rfl (q_aload_n c_11_8 rfl (v_cv c_11_9 km_5_65 rfl rfl (Nat.le_of_ble_eq_true rfl) ⟨⟨rfl, rfl⟩, Nat.le_of_ble_eq_true rfl, rfl⟩ (Nat.le_of_ble_eq_true rfl) (Nat.le_of_ble_eq_true rfl) (q_aload_n c_4_0 rfl ?_)))))
    have h_5 : -2147483648 ≤ (F a9) ∧ (F a9) ≤ 2147483647 := by rw [← hF a9]; exact ir_2 hJ a9
    have h_6 := nx_bd (b := F) (e := e1) (a := a9)
    have h_7 : -2147483648 ≤ (F (nx F e1 a9)) ∧ (F (nx F e1 a9)) ≤ 2147483647 := by rw [← hF (nx F e1 a9)]; exact ir_2 hJ (nx F e1 a9)
    have h_8 := nx_n (b := F) (e := e1) (a := a9)
    refine v_cv c_4_1 km_5_41 rfl rfl (Nat.le_of_ble_eq_true rfl) ⟨⟨rfl, rfl⟩, Nat.le_of_ble_eq_true rfl, rfl⟩ (Nat.le_of_ble_eq_true rfl) (Nat.le_of_ble_eq_true rfl) (f_3 (e1 := e1) (a9 := a9) (B := F) (r8 := (nx F e1 a9)) hJ ((hg_e1)) ((hg_a9)) (fun j => hF j) rfl (fun c_9 hI_10 hF_11 hz_12 => (bk_inl (q_istore_n c_4_4 (Nat.le_of_ble_eq_true rfl) (q_iconst c_4_5 (q_istore_n c_4_6 (Nat.le_of_ble_eq_true rfl) (q_iload_n c_4_7 rfl (q_aload_n c_4_8 rfl (v_sln 1 c_4_9 rfl (by omega) (Nat.le_of_ble_eq_true rfl) (by decide) (by decide) ?_)))))))))
    refine v_ic_ge_f (t := 55) c_4_12 rfl (by decide) (q_iload_n c_4_15 rfl (q_aload_n c_4_16 rfl ?_))
    have kn_13 : Hid (c_9 1 1 = e1) := (hF_11 1 1 (fun h => absurd h.2 (ni rfl))).trans (hg_e1)
    refine v_gi (z := 1) (v := e1) c_4_17 kf_5_32 rfl (Nat.le_of_ble_eq_true rfl) rfl rfl (hid kn_13) ?_
    by_cases h_14 : (nx F e1 a9) ≥ e1
    · refine v_ic_ge_t (t := 55) c_4_20 rfl ⟨(Int.le_trans (by decide) (rg_eq hg_e1 h_1).1), h_14, by first | exact q_b3bd846dd h_2 h_3 h_6 hg_a9 hr_e1 | omega⟩ (q_iconst c_4_55 (q_iret c_4_56 rfl (bk_inl (q_iconst c_11_12 (v_ic_ne_f (t := 25) c_11_13 rfl (by decide) (q_aload_n c_11_16 rfl (q_iconst c_11_17 ?_)))))))
      refine q_aload_n c_11_18 rfl (v_gi (z := 2) (v := (nx F e1 a9)) c_11_19 kf_5_35 rfl (Nat.le_of_ble_eq_true rfl) rfl rfl (hz_12) (v_cv c_11_22 km_5_52 rfl rfl (Nat.le_of_ble_eq_true rfl) ⟨⟨rfl, rfl⟩, Nat.le_of_ble_eq_true rfl, rfl⟩ (Nat.le_of_ble_eq_true rfl) (Nat.le_of_ble_eq_true rfl) (q_aload_n c_7_0 rfl ?_)))
      have kn_15 : Hid (c_9 1 4 = 0) := (hF_11 1 4 (fun h => absurd h.2 (ni rfl))).trans (hs9)
      refine v_gi (z := 4) (v := 0) c_7_1 kf_5_38 rfl (Nat.le_of_ble_eq_true rfl) rfl rfl (hid kn_15) (v_if_ne_f (t := 17) c_7_4 rfl (by decide) (q_aload_n c_7_7 rfl (q_iload_n c_7_8 rfl (v_pi (z := 4) c_7_9 kf_5_38 rfl (Nat.le_of_ble_eq_true rfl) rfl rfl rfl (by decide) (q_aload_n c_7_12 rfl (q_iload_n c_7_13 rfl (v_pi (z := 5) c_7_14 kf_5_15 rfl (Nat.le_of_ble_eq_true rfl) rfl rfl rfl (by decide) ?_)))))))
      refine q_vret rfl rfl (bk_inl (q_vret rfl rfl ?_))
      have hI_16 := iw_1_4 (v := 1) hI_10 ⟨by decide, by decide⟩
      have hI_17 := iw_1_5 (v := (nx F e1 a9)) hI_16 ⟨by first | exact q_e3021f629 h_3 h_6 hg_a9 | omega, by first | exact q_f657906b2 h_2 h_3 h_6 hg_a9 hr_e1 | omega⟩
      intro hE_18
      have hW : Wd P Q P P (up (up c_9 1 4 1) 1 5 (nx F e1 a9)) = Wd P Q P P m9 := (Prod.mk.inj (Prod.mk.inj hE_18).2).1
      have h_19 := ir_1_4 hJ9
      have h_20 : m9 1 4 = 1 := wd_fv (z := 4) 4 rfl hW rfl rfl rfl rfl (by decide) ((up_n (by decide)).trans (up_e rfl)) ⟨by decide, by decide⟩ ⟨(Int.le_trans (by decide) h_19.1), (Int.le_trans h_19.2 (by decide))⟩
      have h_21 := ir_1_2 hJ9
      have h_22 : m9 1 2 = (nx F e1 a9) := wd_fv (z := 2) 2 rfl hW rfl rfl rfl rfl (by decide) ((up_n (by decide)).trans ((up_n (by decide)).trans (hz_12))) ⟨by first | exact q_a3bce4abb h_3 h_6 hg_a9 | omega, by first | exact q_b3bd846dd h_2 h_3 h_6 hg_a9 hr_e1 | omega⟩ ⟨(Int.le_trans (by decide) h_21.1), (Int.le_trans h_21.2 (by decide))⟩
      have h_23 := ir_1_5 hJ9
      have h_24 : m9 1 5 = (nx F e1 a9) := wd_fv (z := 5) 5 rfl hW rfl rfl rfl rfl (by decide) (up_e rfl) ⟨by first | exact q_17990f574 h_21 h_22 | omega, by first | exact q_757c304f4 h_21 h_22 | omega⟩ ⟨(Int.le_trans (by decide) h_23.1), (Int.le_trans h_23.2 (by decide))⟩
      refine q_aload_n c_161_0 rfl (v_cv c_161_1 km_8_131 rfl rfl (Nat.le_of_ble_eq_true rfl) ⟨⟨rfl, rfl⟩, Nat.le_of_ble_eq_true rfl, rfl⟩ (Nat.le_of_ble_eq_true rfl) (Nat.le_of_ble_eq_true rfl) (q_aload_n c_152_0 rfl ?_))
      have h_25 := ir_41_5 hI
      have h_26 := ir_1_5 hJ
      have h_27 := ir_41_4 hI
      have h_28 := ir_41_6 hI
      have h_29 := rt_ok hRt (by first | (clear h_1 hg_e1 h_2 hr_e1 h_3 hg_a9 hg_f0 h_5 h_6 h_7 h_14 h_19 h_20 h_21 h_22 h_23 h_24 h_25 h_26 h_27 h_28 h_8; omega) | omega)
      have hro_hRt := rt_ok hRt (by first | assumption | omega)
      refine v_gi (z := 5) (v := (-1)) c_152_1 kf_8_102 rfl (Nat.le_of_ble_eq_true rfl) rfl rfl hro_hRt.2.1 (q_iconst c_152_4 (v_ic_ne_f (t := 12) c_152_5 rfl (by decide) (q_iconst c_152_8 (q_goto (t := 13) c_152_9 rfl (v_zret c_152_13 rfl (by decide) (bk_inl (v_if_eq_f (t := 24) c_161_4 rfl (by decide) ?_)))))))
      refine q_aload_n c_161_7 rfl ?_
      have h_30 : -2147483648 ≤ (H (nx F e1 a9)) ∧ (H (nx F e1 a9)) ≤ 2147483647 := by rw [← hH (nx F e1 a9)]; exact ir_43 hI (nx F e1 a9)
      have h_31 : (nx F e1 a9) < 600 → (H (nx F e1 a9)) = (F (nx F e1 a9)) % 256 ∧ -128 ≤ (F (nx F e1 a9)) ∧ (F (nx F e1 a9)) ≤ 127 := fun q => hU (nx F e1 a9) (by omega) q
      have h_32 := hb_or (b := H) (e := e1) (r := (nx F e1 a9))
      have h_33 := hb_bd (b := H) (e := e1) (r := (nx F e1 a9)) (lo := -2147483648) (hi := 2147483647) h_30 (by decide)
      refine v_cv c_161_8 km_8_114 rfl rfl (Nat.le_of_ble_eq_true rfl) ⟨⟨rfl, rfl⟩, Nat.le_of_ble_eq_true rfl, rfl⟩ (Nat.le_of_ble_eq_true rfl) (Nat.le_of_ble_eq_true rfl) (f_154 (e1 := e1) (a9 := a9) (B := H) (r8 := (nx F e1 a9)) (r := (hb H e1 (nx F e1 a9))) hI ((hr_e1)) (((hro_hRt.2.2.1).trans ((hg_a9)))) (fun j => hH j) ((nx_tr hU ((rg_eq hg_a9 h_3).1) ((rg_eq hg_e1 h_1).2)).trans (rfl)) rfl (fun c_34 hI_35 hF_36 h_37 => (bk_inl (q_iload_n c_161_11 rfl (v_ic_eq_f (t := 24) c_161_12 rfl ⟨by first | exact q_ea4577a89 h_14 h_32 | omega, ⟨h_33.1, h_33.2⟩, by decide, by decide⟩ (q_aload_n c_161_15 rfl (q_iconst c_161_16 (q_aload_n c_161_17 rfl (v_gi (z := 4) (v := (nx F e1 a9)) c_161_18 kf_8_108 rfl (Nat.le_of_ble_eq_true rfl) rfl rfl (h_37) ?_)))))))))
      refine v_cv c_161_21 km_8_138 rfl rfl (Nat.le_of_ble_eq_true rfl) ⟨⟨rfl, rfl⟩, Nat.le_of_ble_eq_true rfl, rfl⟩ (Nat.le_of_ble_eq_true rfl) (Nat.le_of_ble_eq_true rfl) (q_aload_n c_153_0 rfl ?_)
      have kn_38 : Hid (c_34 41 5 = (-1)) := (hF_36 41 5 (fun h => absurd h.2 (ni rfl))).trans hro_hRt.2.1
      refine v_gi (z := 5) (v := (-1)) c_153_1 kf_8_102 rfl (Nat.le_of_ble_eq_true rfl) rfl rfl (hid kn_38) (q_iconst c_153_4 (v_ic_eq_t (t := 9) c_153_5 rfl (by decide) (q_aload_n c_153_9 rfl (q_iload_n c_153_10 rfl (v_pi (z := 5) c_153_11 kf_8_102 rfl (Nat.le_of_ble_eq_true rfl) rfl rfl rfl (by decide) (q_aload_n c_153_14 rfl (q_iload_n c_153_15 rfl ?_)))))))
      refine v_pi (z := 6) c_153_16 kf_8_105 rfl (Nat.le_of_ble_eq_true rfl) rfl rfl rfl (by decide) (q_vret rfl rfl (bk_inl (q_aload_n c_161_24 rfl (v_cv c_161_25 km_8_131 rfl rfl (Nat.le_of_ble_eq_true rfl) ⟨⟨rfl, rfl⟩, Nat.le_of_ble_eq_true rfl, rfl⟩ (Nat.le_of_ble_eq_true rfl) (Nat.le_of_ble_eq_true rfl) (q_aload_n c_152_0 rfl (v_gi (z := 5) (v := (nx F e1 a9)) c_152_1 kf_8_102 rfl (Nat.le_of_ble_eq_true rfl) rfl rfl ((up_n (by decide)).trans (up_e rfl)) (q_iconst c_152_4 ?_)))))))
      refine v_ic_ne_t (t := 12) c_152_5 rfl ⟨by first | exact q_90762221b h_21 h_22 | omega, ⟨by first | exact q_17990f574 h_21 h_22 | omega, by first | exact q_757c304f4 h_21 h_22 | omega⟩, by decide, by decide⟩ (q_iconst c_152_12 (v_zret c_152_13 rfl (by decide) (bk_inl (v_if_eq_t (t := 41) c_161_28 rfl (by decide) (q_vret rfl rfl ?_)))))
      have hI_39 := iw_41_5 (v := (nx F e1 a9)) hI_35 ⟨by first | exact q_5ce231cbd h_21 h_22 | omega, by first | exact q_6094bb0fa h_23 h_24 | omega⟩
      have hI_40 := iw_41_6 (v := 1) hI_39 ⟨by decide, by decide⟩
      have h_41 : (up (up c_34 41 5 (nx F e1 a9)) 41 6 1) 41 5 = (nx F e1 a9) := ((up_n (by decide)).trans (up_e rfl))
      have h_42 : (up (up c_34 41 5 (nx F e1 a9)) 41 6 1) 41 4 = (nx F e1 a9) := ((up_n (by decide)).trans ((up_n (by decide)).trans (h_37)))
      have h_43 : (up (up c_34 41 5 (nx F e1 a9)) 41 6 1) 41 6 = 1 := (up_e rfl)
      exact K (up (up c_34 41 5 (nx F e1 a9)) 41 6 1)  hI_40 (fun a j hm => (up_b (Decidable.or_iff_not_imp_left.mpr (fun h1 h2 => hm (Or.inr (Or.inr ⟨Decidable.not_not.mp h1, h2⟩))))).trans ((up_b (Decidable.or_iff_not_imp_left.mpr (fun h1 h2 => hm (Or.inr (Or.inl ⟨Decidable.not_not.mp h1, h2⟩))))).trans (hF_36 a j (fun h => hm (Or.inl h))))) (rt_i2 ⟨⟨by first | exact q_5935f82f1 h_20 | omega, by first | exact q_63461c6bf h_20 | omega⟩, by first | exact q_88dc5fb99 h_24 | omega, by first | exact q_a060fbdd4 h_21 h_22 h_24 | omega, by first | exact q_69efb464e h_20 | omega⟩) (Or.inr (Or.inl (by first | exact q_e2d2b4ae2 h_20 | omega))) (Or.inr (Or.inl (by first | exact q_e2d2b4ae2 h_20 | omega)))
    · refine v_ic_ge_f (t := 55) c_4_20 rfl ⟨by first | exact q_a3bce4abb h_3 h_6 hg_a9 | omega, (Int.not_le.mp h_14), (Int.le_trans (rg_eq hg_e1 h_1).2 (by decide))⟩ (q_aload_n c_4_23 rfl (v_gr (t := 2) c_4_24 kf_5_9 rfl (Nat.le_of_ble_eq_true rfl) rfl (q_iload_n c_4_27 rfl ?_)))
      have kn_44 : Hid (c_9 2 (nx F e1 a9) = (F (nx F e1 a9))) := (hF_11 2 (nx F e1 a9) (fun h => absurd h.1 (nn rfl))).trans (hF (nx F e1 a9))
      refine v_ba (v := (F (nx F e1 a9))) c_4_28 rfl (by decide) (by decide) ⟨by first | exact q_828522d69 h_3 h_6 hg_a9 | omega, by first | exact q_b867e77c7 h_14 h_2 hr_e1 | omega⟩ (hid kn_44) (q_aload_n c_4_29 rfl (q_iload_n c_4_30 rfl (v_sch 91 c_4_31 rfl (by omega) (Nat.le_of_ble_eq_true rfl) (by decide) (by decide) (by decide) ?_)))
      by_cases h_45 : (F (nx F e1 a9)) ≠ 91
      · refine v_ic_ne_t (t := 49) c_4_34 rfl ⟨h_45, ⟨h_7.1, h_7.2⟩, by decide, by decide⟩ (v_iinc (v := 1) c_4_49 rfl (Nat.le_of_ble_eq_true rfl) (by decide) (q_goto (t := 7) c_4_52 rfl (q_iload_n c_4_7 rfl (q_aload_n c_4_8 rfl (v_sln 1 c_4_9 rfl (by omega) (Nat.le_of_ble_eq_true rfl) (by decide) (by decide) (v_ic_ge_t (t := 55) c_4_12 rfl (by decide) (q_iconst c_4_55 ?_)))))))
        refine q_iret c_4_56 rfl (bk_inl (q_iconst c_11_12 (v_ic_ne_f (t := 25) c_11_13 rfl (by decide) (q_aload_n c_11_16 rfl (q_iconst c_11_17 (q_aload_n c_11_18 rfl (v_gi (z := 2) (v := (nx F e1 a9)) c_11_19 kf_5_35 rfl (Nat.le_of_ble_eq_true rfl) rfl rfl (hz_12) ?_)))))))
        refine v_cv c_11_22 km_5_52 rfl rfl (Nat.le_of_ble_eq_true rfl) ⟨⟨rfl, rfl⟩, Nat.le_of_ble_eq_true rfl, rfl⟩ (Nat.le_of_ble_eq_true rfl) (Nat.le_of_ble_eq_true rfl) (q_aload_n c_7_0 rfl ?_)
        have kn_46 : Hid (c_9 1 4 = 0) := (hF_11 1 4 (fun h => absurd h.2 (ni rfl))).trans (hs9)
        refine v_gi (z := 4) (v := 0) c_7_1 kf_5_38 rfl (Nat.le_of_ble_eq_true rfl) rfl rfl (hid kn_46) (v_if_ne_f (t := 17) c_7_4 rfl (by decide) (q_aload_n c_7_7 rfl (q_iload_n c_7_8 rfl (v_pi (z := 4) c_7_9 kf_5_38 rfl (Nat.le_of_ble_eq_true rfl) rfl rfl rfl (by decide) (q_aload_n c_7_12 rfl (q_iload_n c_7_13 rfl (v_pi (z := 5) c_7_14 kf_5_15 rfl (Nat.le_of_ble_eq_true rfl) rfl rfl rfl (by decide) ?_)))))))
        refine q_vret rfl rfl (bk_inl (q_vret rfl rfl ?_))
        have hI_47 := iw_1_4 (v := 1) hI_10 ⟨by decide, by decide⟩
        have hI_48 := iw_1_5 (v := (nx F e1 a9)) hI_47 ⟨by first | exact q_e3021f629 h_3 h_6 hg_a9 | omega, by first | exact q_15401fa7c h_14 h_2 hr_e1 | omega⟩
        intro hE_49
        have hW : Wd P Q P P (up (up c_9 1 4 1) 1 5 (nx F e1 a9)) = Wd P Q P P m9 := (Prod.mk.inj (Prod.mk.inj hE_49).2).1
        have h_50 := ir_1_4 hJ9
        have h_51 : m9 1 4 = 1 := wd_fv (z := 4) 4 rfl hW rfl rfl rfl rfl (by decide) ((up_n (by decide)).trans (up_e rfl)) ⟨by decide, by decide⟩ ⟨(Int.le_trans (by decide) h_50.1), (Int.le_trans h_50.2 (by decide))⟩
        have h_52 := ir_1_2 hJ9
        have h_53 : m9 1 2 = (nx F e1 a9) := wd_fv (z := 2) 2 rfl hW rfl rfl rfl rfl (by decide) ((up_n (by decide)).trans ((up_n (by decide)).trans (hz_12))) ⟨by first | exact q_a3bce4abb h_3 h_6 hg_a9 | omega, by first | exact q_2e6ee4ea6 h_14 h_2 hr_e1 | omega⟩ ⟨(Int.le_trans (by decide) h_52.1), (Int.le_trans h_52.2 (by decide))⟩
        have h_54 := ir_1_5 hJ9
        have h_55 : m9 1 5 = (nx F e1 a9) := wd_fv (z := 5) 5 rfl hW rfl rfl rfl rfl (by decide) (up_e rfl) ⟨by first | exact q_17990f574 h_52 h_53 | omega, by first | exact q_757c304f4 h_52 h_53 | omega⟩ ⟨(Int.le_trans (by decide) h_54.1), (Int.le_trans h_54.2 (by decide))⟩
        refine q_aload_n c_161_0 rfl (v_cv c_161_1 km_8_131 rfl rfl (Nat.le_of_ble_eq_true rfl) ⟨⟨rfl, rfl⟩, Nat.le_of_ble_eq_true rfl, rfl⟩ (Nat.le_of_ble_eq_true rfl) (Nat.le_of_ble_eq_true rfl) (q_aload_n c_152_0 rfl ?_))
        have h_56 := ir_41_5 hI
        have h_57 := ir_1_5 hJ
        have h_58 := ir_41_4 hI
        have h_59 := ir_41_6 hI
        have h_60 := rt_ok hRt (by first | (clear h_1 hg_e1 h_2 hr_e1 h_3 hg_a9 hg_f0 h_5 h_6 h_7 h_14 h_50 h_51 h_52 h_53 h_54 h_55 h_56 h_57 h_58 h_59 h_8 h_45; omega) | omega)
        have hro_hRt := rt_ok hRt (by first | assumption | omega)
        refine v_gi (z := 5) (v := (-1)) c_152_1 kf_8_102 rfl (Nat.le_of_ble_eq_true rfl) rfl rfl hro_hRt.2.1 (q_iconst c_152_4 (v_ic_ne_f (t := 12) c_152_5 rfl (by decide) (q_iconst c_152_8 (q_goto (t := 13) c_152_9 rfl (v_zret c_152_13 rfl (by decide) (bk_inl (v_if_eq_f (t := 24) c_161_4 rfl (by decide) ?_)))))))
        refine q_aload_n c_161_7 rfl ?_
        have h_61 : -2147483648 ≤ (H (nx F e1 a9)) ∧ (H (nx F e1 a9)) ≤ 2147483647 := by rw [← hH (nx F e1 a9)]; exact ir_43 hI (nx F e1 a9)
        have h_62 := hU (nx F e1 a9) (by first | exact q_4ad75e8a2 h_52 h_53 | omega) (by first | exact q_b867e77c7 h_14 h_2 hr_e1 | omega)
        have h_63 := hb_or (b := H) (e := e1) (r := (nx F e1 a9))
        have h_64 := hb_bd (b := H) (e := e1) (r := (nx F e1 a9)) (lo := -2147483648) (hi := 2147483647) h_61 (by decide)
        refine v_cv c_161_8 km_8_114 rfl rfl (Nat.le_of_ble_eq_true rfl) ⟨⟨rfl, rfl⟩, Nat.le_of_ble_eq_true rfl, rfl⟩ (Nat.le_of_ble_eq_true rfl) (Nat.le_of_ble_eq_true rfl) (f_154 (e1 := e1) (a9 := a9) (B := H) (r8 := (nx F e1 a9)) (r := (hb H e1 (nx F e1 a9))) hI ((hr_e1)) (((hro_hRt.2.2.1).trans ((hg_a9)))) (fun j => hH j) ((nx_tr hU ((rg_eq hg_a9 h_3).1) ((rg_eq hg_e1 h_1).2)).trans (rfl)) rfl (fun c_65 hI_66 hF_67 h_68 => (bk_inl (q_iload_n c_161_11 rfl (v_ic_eq_f (t := 24) c_161_12 rfl ⟨by first | (clear h_1 hg_e1 h_2 hr_e1 h_3 hg_a9 h_4 hg_f0 h_5 h_6 h_7 h_14 h_50 h_51 h_52 h_53 h_54 h_55 h_56 h_57 h_58 h_59 h_60 h_61 h_64 h_8; omega) | omega, ⟨h_64.1, h_64.2⟩, by decide, by decide⟩ (q_aload_n c_161_15 rfl (q_iconst c_161_16 (q_aload_n c_161_17 rfl (v_gi (z := 4) (v := (nx F e1 a9)) c_161_18 kf_8_108 rfl (Nat.le_of_ble_eq_true rfl) rfl rfl (h_68) ?_)))))))))
        refine v_cv c_161_21 km_8_138 rfl rfl (Nat.le_of_ble_eq_true rfl) ⟨⟨rfl, rfl⟩, Nat.le_of_ble_eq_true rfl, rfl⟩ (Nat.le_of_ble_eq_true rfl) (Nat.le_of_ble_eq_true rfl) (q_aload_n c_153_0 rfl ?_)
        have kn_69 : Hid (c_65 41 5 = (-1)) := (hF_67 41 5 (fun h => absurd h.2 (ni rfl))).trans hro_hRt.2.1
        refine v_gi (z := 5) (v := (-1)) c_153_1 kf_8_102 rfl (Nat.le_of_ble_eq_true rfl) rfl rfl (hid kn_69) (q_iconst c_153_4 (v_ic_eq_t (t := 9) c_153_5 rfl (by decide) (q_aload_n c_153_9 rfl (q_iload_n c_153_10 rfl (v_pi (z := 5) c_153_11 kf_8_102 rfl (Nat.le_of_ble_eq_true rfl) rfl rfl rfl (by decide) (q_aload_n c_153_14 rfl (q_iload_n c_153_15 rfl ?_)))))))
        refine v_pi (z := 6) c_153_16 kf_8_105 rfl (Nat.le_of_ble_eq_true rfl) rfl rfl rfl (by decide) (q_vret rfl rfl (bk_inl (q_aload_n c_161_24 rfl (v_cv c_161_25 km_8_131 rfl rfl (Nat.le_of_ble_eq_true rfl) ⟨⟨rfl, rfl⟩, Nat.le_of_ble_eq_true rfl, rfl⟩ (Nat.le_of_ble_eq_true rfl) (Nat.le_of_ble_eq_true rfl) (q_aload_n c_152_0 rfl (v_gi (z := 5) (v := (nx F e1 a9)) c_152_1 kf_8_102 rfl (Nat.le_of_ble_eq_true rfl) rfl rfl ((up_n (by decide)).trans (up_e rfl)) (q_iconst c_152_4 ?_)))))))
        refine v_ic_ne_t (t := 12) c_152_5 rfl ⟨by first | exact q_90762221b h_52 h_53 | omega, ⟨by first | exact q_17990f574 h_52 h_53 | omega, by first | exact q_783468581 h_54 h_55 | omega⟩, by decide, by decide⟩ (q_iconst c_152_12 (v_zret c_152_13 rfl (by decide) (bk_inl (v_if_eq_t (t := 41) c_161_28 rfl (by decide) (q_vret rfl rfl ?_)))))
        have hI_70 := iw_41_5 (v := (nx F e1 a9)) hI_66 ⟨by first | exact q_5ce231cbd h_52 h_53 | omega, by first | exact q_deaeab841 h_52 h_53 | omega⟩
        have hI_71 := iw_41_6 (v := 1) hI_70 ⟨by decide, by decide⟩
        have h_72 : (up (up c_65 41 5 (nx F e1 a9)) 41 6 1) 41 5 = (nx F e1 a9) := ((up_n (by decide)).trans (up_e rfl))
        have h_73 : (up (up c_65 41 5 (nx F e1 a9)) 41 6 1) 41 4 = (nx F e1 a9) := ((up_n (by decide)).trans ((up_n (by decide)).trans (h_68)))
        have h_74 : (up (up c_65 41 5 (nx F e1 a9)) 41 6 1) 41 6 = 1 := (up_e rfl)
        exact K (up (up c_65 41 5 (nx F e1 a9)) 41 6 1)  hI_71 (fun a j hm => (up_b (Decidable.or_iff_not_imp_left.mpr (fun h1 h2 => hm (Or.inr (Or.inr ⟨Decidable.not_not.mp h1, h2⟩))))).trans ((up_b (Decidable.or_iff_not_imp_left.mpr (fun h1 h2 => hm (Or.inr (Or.inl ⟨Decidable.not_not.mp h1, h2⟩))))).trans (hF_67 a j (fun h => hm (Or.inl h))))) (rt_i2 ⟨⟨by first | exact q_5935f82f1 h_51 | omega, by first | exact q_63461c6bf h_51 | omega⟩, by first | exact q_88dc5fb99 h_55 | omega, by first | exact q_a060fbdd4 h_52 h_53 h_55 | omega, by first | exact q_69efb464e h_51 | omega⟩) (Or.inr (Or.inl (by first | exact q_e2d2b4ae2 h_51 | omega))) (Or.inr (Or.inl (by first | exact q_e2d2b4ae2 h_51 | omega)))
      · refine v_ic_ne_f (t := 49) c_4_34 rfl (Decidable.not_not.mp h_45) (q_aload_n c_4_37 rfl (q_dup c_4_38 rfl (v_gi (z := 2) (v := (nx F e1 a9)) c_4_39 kf_5_35 rfl (Nat.le_of_ble_eq_true rfl) rfl rfl (hz_12) (q_iconst c_4_42 (v_iadd (v := (nx F e1 a9) + 1) c_4_43 rfl (v_pi (z := 2) c_4_44 kf_5_35 rfl (Nat.le_of_ble_eq_true rfl) rfl rfl rfl (by decide) (q_iload_n c_4_47 rfl ?_)))))))
        refine q_iret c_4_48 rfl (bk_inl (q_iconst c_11_12 (v_ic_ne_t (t := 25) c_11_13 rfl (by decide) (q_vret rfl rfl ?_))))
        have hI_75 := iw_1_2 (v := (nx F e1 a9) + 1) hI_10 ⟨by first | exact q_e260493d5 h_3 h_6 hg_a9 | omega, by first | exact q_6ea34058e h_14 h_2 hr_e1 | omega⟩
        intro hE_76
        have hW : Wd P Q P P (up c_9 1 2 ((nx F e1 a9) + 1)) = Wd P Q P P m9 := (Prod.mk.inj (Prod.mk.inj hE_76).2).1
        have kn_77 : Hid (c_9 1 4 = 0) := (hF_11 1 4 (fun h => absurd h.2 (ni rfl))).trans (hs9)
        have h_78 := ir_1_4 hJ9
        have h_79 : m9 1 4 = 0 := wd_fv (z := 4) 4 rfl hW rfl rfl rfl rfl (by decide) ((up_n (by decide)).trans (hid kn_77)) ⟨by decide, by decide⟩ ⟨(Int.le_trans (by decide) h_78.1), (Int.le_trans h_78.2 (by decide))⟩
        have h_80 := ir_1_2 hJ9
        have h_81 : m9 1 2 = (nx F e1 a9) + 1 := wd_fv (z := 2) 2 rfl hW rfl rfl rfl rfl (by decide) (up_e rfl) ⟨by first | exact q_86633cc1b h_3 h_6 hg_a9 | omega, by first | exact q_1da59465c h_14 h_2 hr_e1 | omega⟩ ⟨(Int.le_trans (by decide) h_80.1), (Int.le_trans h_80.2 (by decide))⟩
        have kn_82 : Hid (c_9 1 5 = (-1)) := (hF_11 1 5 (fun h => absurd h.2 (ni rfl))).trans (hs8)
        have h_83 := ir_1_5 hJ9
        have h_84 : m9 1 5 = (-1) := wd_fv (z := 5) 5 rfl hW rfl rfl rfl rfl (by decide) ((up_n (by decide)).trans (hid kn_82)) ⟨by decide, by decide⟩ ⟨(Int.le_trans (by decide) h_83.1), (Int.le_trans h_83.2 (by decide))⟩
        refine q_aload_n c_161_0 rfl (v_cv c_161_1 km_8_131 rfl rfl (Nat.le_of_ble_eq_true rfl) ⟨⟨rfl, rfl⟩, Nat.le_of_ble_eq_true rfl, rfl⟩ (Nat.le_of_ble_eq_true rfl) (Nat.le_of_ble_eq_true rfl) (q_aload_n c_152_0 rfl ?_))
        have h_85 := ir_41_5 hI
        have h_86 := ir_1_5 hJ
        have h_87 := ir_41_4 hI
        have h_88 := ir_41_6 hI
        have h_89 := rt_ok hRt (by first | (clear h_1 hg_e1 h_2 hr_e1 h_3 hg_a9 hg_f0 h_5 h_6 h_7 h_14 h_45 h_78 h_79 h_80 h_81 h_83 h_84 h_85 h_86 h_87 h_88 h_8; omega) | omega)
        have hro_hRt := rt_ok hRt (by first | assumption | omega)
        refine v_gi (z := 5) (v := (-1)) c_152_1 kf_8_102 rfl (Nat.le_of_ble_eq_true rfl) rfl rfl hro_hRt.2.1 (q_iconst c_152_4 (v_ic_ne_f (t := 12) c_152_5 rfl (by decide) (q_iconst c_152_8 (q_goto (t := 13) c_152_9 rfl (v_zret c_152_13 rfl (by decide) (bk_inl (v_if_eq_f (t := 24) c_161_4 rfl (by decide) ?_)))))))
        refine q_aload_n c_161_7 rfl ?_
        have h_90 : -2147483648 ≤ (H (nx F e1 a9)) ∧ (H (nx F e1 a9)) ≤ 2147483647 := by rw [← hH (nx F e1 a9)]; exact ir_43 hI (nx F e1 a9)
        have h_91 := hU (nx F e1 a9) (by first | exact q_828522d69 h_3 h_6 hg_a9 | omega) (by first | exact q_b03d63f6f h_80 h_81 | omega)
        have h_92 := hb_or (b := H) (e := e1) (r := (nx F e1 a9))
        have h_93 := hb_bd (b := H) (e := e1) (r := (nx F e1 a9)) (lo := -2147483648) (hi := 2147483647) h_90 (by decide)
        refine v_cv c_161_8 km_8_114 rfl rfl (Nat.le_of_ble_eq_true rfl) ⟨⟨rfl, rfl⟩, Nat.le_of_ble_eq_true rfl, rfl⟩ (Nat.le_of_ble_eq_true rfl) (Nat.le_of_ble_eq_true rfl) (f_154 (e1 := e1) (a9 := a9) (B := H) (r8 := (nx F e1 a9)) (r := (hb H e1 (nx F e1 a9))) hI ((hr_e1)) (((hro_hRt.2.2.1).trans ((hg_a9)))) (fun j => hH j) ((nx_tr hU ((rg_eq hg_a9 h_3).1) ((rg_eq hg_e1 h_1).2)).trans (rfl)) rfl (fun c_94 hI_95 hF_96 h_97 => (bk_inl (q_iload_n c_161_11 rfl (v_ic_eq_t (t := 24) c_161_12 rfl (by first | (clear h_1 hg_e1 h_2 hr_e1 h_3 hg_a9 h_4 hg_f0 h_5 h_6 h_7 h_78 h_79 h_80 h_81 h_83 h_84 h_85 h_86 h_87 h_88 h_89 h_90 h_93 h_8; omega) | omega) (q_aload_n c_161_24 rfl (v_cv c_161_25 km_8_131 rfl rfl (Nat.le_of_ble_eq_true rfl) ⟨⟨rfl, rfl⟩, Nat.le_of_ble_eq_true rfl, rfl⟩ (Nat.le_of_ble_eq_true rfl) (Nat.le_of_ble_eq_true rfl) (q_aload_n c_152_0 rfl ?_))))))))
        have kn_98 : Hid (c_94 41 5 = (-1)) := (hF_96 41 5 (fun h => absurd h.2 (ni rfl))).trans hro_hRt.2.1
        refine v_gi (z := 5) (v := (-1)) c_152_1 kf_8_102 rfl (Nat.le_of_ble_eq_true rfl) rfl rfl (hid kn_98) (q_iconst c_152_4 (v_ic_ne_f (t := 12) c_152_5 rfl (by decide) (q_iconst c_152_8 (q_goto (t := 13) c_152_9 rfl (v_zret c_152_13 rfl (by decide) (bk_inl (v_if_eq_f (t := 41) c_161_28 rfl (by decide) ?_)))))))
        refine q_aload_n c_161_31 rfl (q_dup c_161_32 rfl (v_gi (z := 4) (v := (nx F e1 a9)) c_161_33 kf_8_108 rfl (Nat.le_of_ble_eq_true rfl) rfl rfl (h_97) (q_iconst c_161_36 (v_iadd (v := (nx F e1 a9) + 1) c_161_37 rfl (v_pi (z := 4) c_161_38 kf_8_108 rfl (Nat.le_of_ble_eq_true rfl) rfl rfl rfl (by decide) (q_vret rfl rfl ?_))))))
        have hI_99 := iw_41_4 (v := (nx F e1 a9) + 1) hI_95 ⟨by first | exact q_e260493d5 h_3 h_6 hg_a9 | omega, by first | exact q_369ecf7f1 h_80 h_81 | omega⟩
        have h_100 : (up c_94 41 4 ((nx F e1 a9) + 1)) 41 5 = (-1) := ((up_n (by decide)).trans (hid kn_98))
        have h_101 : (up c_94 41 4 ((nx F e1 a9) + 1)) 41 4 = (nx F e1 a9) + 1 := (up_e rfl)
        have kn_102 : Hid (c_94 41 6 = c 41 6) := hF_96 41 6 (fun h => absurd h.2 (ni rfl))
        have h_103 : (up c_94 41 4 ((nx F e1 a9) + 1)) 41 6 = c 41 6 := ((up_n (by decide)).trans (hid kn_102))
        exact K (up c_94 41 4 ((nx F e1 a9) + 1))  hI_99 (fun a j hm => (up_b (Decidable.or_iff_not_imp_left.mpr (fun h1 h2 => hm (Or.inl ⟨Decidable.not_not.mp h1, h2⟩)))).trans (hF_96 a j (fun h => hm (Or.inl h)))) (rt_i1 ⟨by first | exact q_f6b658f58 h_78 h_79 | omega, by first | assumption | omega, by first | exact q_58a890de0 h_81 | omega, by first | exact q_f39655ca6 h_83 h_84 | omega⟩) (Or.inr (Or.inr ⟨by first | exact q_1caa53e22 h_6 h_81 | omega, by first | exact q_639ed28ca h_14 h_81 | omega⟩)) (Or.inr (Or.inr (by first | (clear h_1 hg_e1 h_2 hr_e1 h_3 hg_a9 h_5 h_6 h_7 h_14 h_45 h_78 h_79 h_80 h_81 h_83 h_84 h_85 h_86 h_87 h_88 h_89 h_90 h_91 h_93 h_8 h_92; omega) | omega)))
  · skip
    refine q_aload_n c_11_0 rfl (v_cv c_11_1 km_5_45 rfl rfl (Nat.le_of_ble_eq_true rfl) ⟨⟨rfl, rfl⟩, Nat.le_of_ble_eq_true rfl, rfl⟩ (Nat.le_of_ble_eq_true rfl) (Nat.le_of_ble_eq_true rfl) (q_aload_n c_2_0 rfl (v_gi (z := 4) (v := f0) c_2_1 kf_5_38 rfl (Nat.le_of_ble_eq_true rfl) rfl rfl (hg_f0) (v_if_ne_t (t := 11) c_2_4 rfl ⟨by omega, ⟨(Int.le_trans (by decide) (rg_eq hg_f0 h_4).1), (Int.le_trans (rg_eq hg_f0 h_4).2 (by decide))⟩, by decide, by decide⟩ (q_iconst c_2_11 (v_zret c_2_12 rfl (by decide) (bk_inl ?_)))))))
    refine v_if_eq_t (t := 25) c_11_4 rfl (by decide) (q_vret rfl rfl ?_)
    intro hE_104
    have hW : Wd P Q P P m = Wd P Q P P m9 := (Prod.mk.inj (Prod.mk.inj hE_104).2).1
    have h_105 := ir_1_4 hJ9
    have h_106 : m9 1 4 = f0 := wd_fv (z := 4) 4 rfl hW rfl rfl rfl rfl (by decide) (hg_f0) ⟨(Int.le_trans (by decide) (rg_eq hg_f0 h_4).1), (Int.le_trans (rg_eq hg_f0 h_4).2 (by decide))⟩ ⟨(Int.le_trans (by decide) h_105.1), (Int.le_trans h_105.2 (by decide))⟩
    have h_107 := ir_1_2 hJ9
    have h_108 : m9 1 2 = a9 := wd_fv (z := 2) 2 rfl hW rfl rfl rfl rfl (by decide) (hg_a9) ⟨(Int.le_trans (by decide) (rg_eq hg_a9 h_3).1), (Int.le_trans (rg_eq hg_a9 h_3).2 (by decide))⟩ ⟨(Int.le_trans (by decide) h_107.1), (Int.le_trans h_107.2 (by decide))⟩
    have h_109 := ir_1_5 hJ
    have h_110 := ir_1_5 hJ9
    have h_111 : m9 1 5 = m 1 5 := wd_fv (z := 5) 5 rfl hW rfl rfl rfl rfl (by decide) rfl ⟨(Int.le_trans (by decide) h_109.1), (Int.le_trans h_109.2 (by decide))⟩ ⟨(Int.le_trans (by decide) h_110.1), (Int.le_trans h_110.2 (by decide))⟩
    refine q_aload_n c_161_0 rfl (v_cv c_161_1 km_8_131 rfl rfl (Nat.le_of_ble_eq_true rfl) ⟨⟨rfl, rfl⟩, Nat.le_of_ble_eq_true rfl, rfl⟩ (Nat.le_of_ble_eq_true rfl) (Nat.le_of_ble_eq_true rfl) (q_aload_n c_152_0 rfl ?_))
    have h_112 := ir_41_5 hI
    have h_113 := ir_41_4 hI
    have h_114 := ir_41_6 hI
    have h_115 := rt_bad hRt (by first | (clear h_1 hg_e1 h_2 hr_e1 h_3 hg_a9 h_4 hg_f0 h_105 h_106 h_107 h_108 h_109 h_110 h_111 h_112 h_113 h_114; omega) | omega)
    have hrb_hRt := rt_bad hRt (by first | exact q_5e082ea92 h_115 hg_f0 | omega)
    refine v_gi (z := 5) (v := m 1 5) c_152_1 kf_8_102 rfl (Nat.le_of_ble_eq_true rfl) rfl rfl hrb_hRt.2.1 (q_iconst c_152_4 (v_ic_ne_t (t := 12) c_152_5 rfl ⟨by first | exact q_0f78863d3 h_115 | omega, ⟨(Int.le_trans (by decide) h_109.1), (Int.le_trans h_109.2 (by decide))⟩, by decide, by decide⟩ (q_iconst c_152_12 (v_zret c_152_13 rfl (by decide) (bk_inl (v_if_eq_t (t := 24) c_161_4 rfl (by decide) (q_aload_n c_161_24 rfl ?_)))))))
    refine v_cv c_161_25 km_8_131 rfl rfl (Nat.le_of_ble_eq_true rfl) ⟨⟨rfl, rfl⟩, Nat.le_of_ble_eq_true rfl, rfl⟩ (Nat.le_of_ble_eq_true rfl) (Nat.le_of_ble_eq_true rfl) (q_aload_n c_152_0 rfl (v_gi (z := 5) (v := m 1 5) c_152_1 kf_8_102 rfl (Nat.le_of_ble_eq_true rfl) rfl rfl hrb_hRt.2.1 (q_iconst c_152_4 (v_ic_ne_t (t := 12) c_152_5 rfl ⟨by first | exact q_0f78863d3 h_115 | omega, ⟨(Int.le_trans (by decide) h_109.1), (Int.le_trans h_109.2 (by decide))⟩, by decide, by decide⟩ (q_iconst c_152_12 (v_zret c_152_13 rfl (by decide) (bk_inl ?_)))))))
    refine v_if_eq_t (t := 41) c_161_28 rfl (by decide) (q_vret rfl rfl ?_)
    have h_116 : c 41 5 = m 1 5 := hrb_hRt.2.1
    have h_117 : c 41 6 = f0 := ((hrb_hRt.2.2.2).trans ((hg_f0)))
    exact K c  hI (fun a j hm => rfl) (rt_i2 ⟨⟨by first | exact q_3b8ab523e h_106 h_115 hg_f0 | omega, by first | exact q_c99d6ea93 h_105 | omega⟩, by first | exact q_88dc5fb99 h_111 | omega, by first | exact q_cb71117a2 h_111 h_115 | omega, by first | exact q_88dc5fb99 h_106 | omega⟩) (Or.inr (Or.inl (by first | exact q_2ce17e943 h_106 h_115 hg_f0 | omega))) (Or.inr (Or.inl (by first | exact q_2ce17e943 h_106 h_115 hg_f0 | omega)))

set_option maxRecDepth 100000 in
set_option maxHeartbeats 4000000 in
theorem L_11_4 {sc : List Int32} {e eg : Int} {d dh u ug P Q P2 Q2 : Nat} {c m m9 : ME} {e1 a9 f0 : Int} {F H : Int → Int} {Z : AR → Prop} (hI : Iv u e P2 Q2 c) (hJ : Iv ug eg P Q m) (hJ9 : Iv ug eg P Q m9) (hg_e1 : m 1 1 = e1) (hr_e1 : c 41 3 = e1) (hg_a9 : m 1 2 = a9) (hg_f0 : m 1 4 = f0) (hF : ∀ j : Int, m 2 j = F j) (hH : ∀ j : Int, c 43 j = H j) (hU : Ub F H) (hRt : Rt m c) (hG : Wp sc (dh + 14) 11 0 [(0, .ref 1), (1, .ref (a_SB + 4))] [] (Wd P Q P P m) 0 0 (fun q => q = (.inl (none), Wd P Q P P m9, 0, 0))) (K : ∀ (c2 : ME), Iv u e P2 Q2 c2 → (∀ (a : Nat) (j : Int), ¬ ((a = 41 ∧ j = 4) ∨ (a = 41 ∧ j = 5) ∨ (a = 41 ∧ j = 6)) → c2 a j = c a j) → (Rt m9 c2) → ((m9 1 4 < 0) ∨ (m9 1 4 > 0) ∨ (m9 1 2 > a9 ∧ m9 1 2 ≤ e1)) → ((m9 1 4 < 0) ∨ (m9 1 4 > 0) ∨ (f0 = 0)) → Z (.inl (none), Wd P2 Q2 P2 P2 c2, 0, 0)) : Wp sc (d + 14) 161 0 [(0, .ref 41), (1, vi 44)] [] (Wd P2 Q2 P2 P2 c) 0 0 Z := by
  have hP := iv_P hJ
  have hQ := iv_Q hJ
  have h_1 := ir_1_1 hJ
  have h_2 := ir_41_3 hI
  have h_3 := ir_1_2 hJ
  have h_4 := ir_1_4 hJ
  refine gh hG ?_
  by_cases hs9 : m 1 4 = 0
  · skip
    have hs8 := (rt_ok hRt hs9).2.2.2
    refine q_aload_n c_11_0 rfl (v_cv c_11_1 km_5_45 rfl rfl (Nat.le_of_ble_eq_true rfl) ⟨⟨rfl, rfl⟩, Nat.le_of_ble_eq_true rfl, rfl⟩ (Nat.le_of_ble_eq_true rfl) (Nat.le_of_ble_eq_true rfl) (q_aload_n c_2_0 rfl (v_gi (z := 4) (v := 0) c_2_1 kf_5_38 rfl (Nat.le_of_ble_eq_true rfl) rfl rfl (hs9) (v_if_ne_f (t := 11) c_2_4 rfl (by decide) (q_iconst c_2_7 (q_goto (t := 12) c_2_8 rfl (v_zret c_2_12 rfl (by decide) ?_)))))))
    refine bk_inl (v_if_eq_f (t := 25) c_11_4 rfl (by decide) (q_aload_n c_11_7 rfl (q_aload_n c_11_8 rfl (v_cv c_11_9 km_5_65 rfl rfl (Nat.le_of_ble_eq_true rfl) ⟨⟨rfl, rfl⟩, Nat.le_of_ble_eq_true rfl, rfl⟩ (Nat.le_of_ble_eq_true rfl) (Nat.le_of_ble_eq_true rfl) (q_aload_n c_4_0 rfl ?_)))))
    have h_5 : -2147483648 ≤ (F a9) ∧ (F a9) ≤ 2147483647 := by rw [← hF a9]; exact ir_2 hJ a9
    have h_6 := nx_bd (b := F) (e := e1) (a := a9)
    have h_7 : -2147483648 ≤ (F (nx F e1 a9)) ∧ (F (nx F e1 a9)) ≤ 2147483647 := by rw [← hF (nx F e1 a9)]; exact ir_2 hJ (nx F e1 a9)
    have h_8 := nx_n (b := F) (e := e1) (a := a9)
    refine v_cv c_4_1 km_5_41 rfl rfl (Nat.le_of_ble_eq_true rfl) ⟨⟨rfl, rfl⟩, Nat.le_of_ble_eq_true rfl, rfl⟩ (Nat.le_of_ble_eq_true rfl) (Nat.le_of_ble_eq_true rfl) (f_3 (e1 := e1) (a9 := a9) (B := F) (r8 := (nx F e1 a9)) hJ ((hg_e1)) ((hg_a9)) (fun j => hF j) rfl (fun c_9 hI_10 hF_11 hz_12 => (bk_inl (q_istore_n c_4_4 (Nat.le_of_ble_eq_true rfl) (q_iconst c_4_5 (q_istore_n c_4_6 (Nat.le_of_ble_eq_true rfl) (q_iload_n c_4_7 rfl (q_aload_n c_4_8 rfl (v_sln 1 c_4_9 rfl (by omega) (Nat.le_of_ble_eq_true rfl) (by decide) (by decide) ?_)))))))))
    refine v_ic_ge_f (t := 55) c_4_12 rfl (by decide) (q_iload_n c_4_15 rfl (q_aload_n c_4_16 rfl ?_))
    have kn_13 : Hid (c_9 1 1 = e1) := (hF_11 1 1 (fun h => absurd h.2 (ni rfl))).trans (hg_e1)
    refine v_gi (z := 1) (v := e1) c_4_17 kf_5_32 rfl (Nat.le_of_ble_eq_true rfl) rfl rfl (hid kn_13) ?_
    by_cases h_14 : (nx F e1 a9) ≥ e1
    · refine v_ic_ge_t (t := 55) c_4_20 rfl ⟨(Int.le_trans (by decide) (rg_eq hg_e1 h_1).1), h_14, by first | exact q_b3bd846dd h_2 h_3 h_6 hg_a9 hr_e1 | omega⟩ (q_iconst c_4_55 (q_iret c_4_56 rfl (bk_inl (q_iconst c_11_12 (v_ic_ne_f (t := 25) c_11_13 rfl (by decide) (q_aload_n c_11_16 rfl (q_iconst c_11_17 ?_)))))))
      refine q_aload_n c_11_18 rfl (v_gi (z := 2) (v := (nx F e1 a9)) c_11_19 kf_5_35 rfl (Nat.le_of_ble_eq_true rfl) rfl rfl (hz_12) (v_cv c_11_22 km_5_52 rfl rfl (Nat.le_of_ble_eq_true rfl) ⟨⟨rfl, rfl⟩, Nat.le_of_ble_eq_true rfl, rfl⟩ (Nat.le_of_ble_eq_true rfl) (Nat.le_of_ble_eq_true rfl) (q_aload_n c_7_0 rfl ?_)))
      have kn_15 : Hid (c_9 1 4 = 0) := (hF_11 1 4 (fun h => absurd h.2 (ni rfl))).trans (hs9)
      refine v_gi (z := 4) (v := 0) c_7_1 kf_5_38 rfl (Nat.le_of_ble_eq_true rfl) rfl rfl (hid kn_15) (v_if_ne_f (t := 17) c_7_4 rfl (by decide) (q_aload_n c_7_7 rfl (q_iload_n c_7_8 rfl (v_pi (z := 4) c_7_9 kf_5_38 rfl (Nat.le_of_ble_eq_true rfl) rfl rfl rfl (by decide) (q_aload_n c_7_12 rfl (q_iload_n c_7_13 rfl (v_pi (z := 5) c_7_14 kf_5_15 rfl (Nat.le_of_ble_eq_true rfl) rfl rfl rfl (by decide) ?_)))))))
      refine q_vret rfl rfl (bk_inl (q_vret rfl rfl ?_))
      have hI_16 := iw_1_4 (v := 1) hI_10 ⟨by decide, by decide⟩
      have hI_17 := iw_1_5 (v := (nx F e1 a9)) hI_16 ⟨by first | exact q_e3021f629 h_3 h_6 hg_a9 | omega, by first | exact q_f657906b2 h_2 h_3 h_6 hg_a9 hr_e1 | omega⟩
      intro hE_18
      have hW : Wd P Q P P (up (up c_9 1 4 1) 1 5 (nx F e1 a9)) = Wd P Q P P m9 := (Prod.mk.inj (Prod.mk.inj hE_18).2).1
      have h_19 := ir_1_4 hJ9
      have h_20 : m9 1 4 = 1 := wd_fv (z := 4) 4 rfl hW rfl rfl rfl rfl (by decide) ((up_n (by decide)).trans (up_e rfl)) ⟨by decide, by decide⟩ ⟨(Int.le_trans (by decide) h_19.1), (Int.le_trans h_19.2 (by decide))⟩
      have h_21 := ir_1_2 hJ9
      have h_22 : m9 1 2 = (nx F e1 a9) := wd_fv (z := 2) 2 rfl hW rfl rfl rfl rfl (by decide) ((up_n (by decide)).trans ((up_n (by decide)).trans (hz_12))) ⟨by first | exact q_a3bce4abb h_3 h_6 hg_a9 | omega, by first | exact q_b3bd846dd h_2 h_3 h_6 hg_a9 hr_e1 | omega⟩ ⟨(Int.le_trans (by decide) h_21.1), (Int.le_trans h_21.2 (by decide))⟩
      have h_23 := ir_1_5 hJ9
      have h_24 : m9 1 5 = (nx F e1 a9) := wd_fv (z := 5) 5 rfl hW rfl rfl rfl rfl (by decide) (up_e rfl) ⟨by first | exact q_17990f574 h_21 h_22 | omega, by first | exact q_757c304f4 h_21 h_22 | omega⟩ ⟨(Int.le_trans (by decide) h_23.1), (Int.le_trans h_23.2 (by decide))⟩
      refine q_aload_n c_161_0 rfl (v_cv c_161_1 km_8_131 rfl rfl (Nat.le_of_ble_eq_true rfl) ⟨⟨rfl, rfl⟩, Nat.le_of_ble_eq_true rfl, rfl⟩ (Nat.le_of_ble_eq_true rfl) (Nat.le_of_ble_eq_true rfl) (q_aload_n c_152_0 rfl ?_))
      have h_25 := ir_41_5 hI
      have h_26 := ir_1_5 hJ
      have h_27 := ir_41_4 hI
      have h_28 := ir_41_6 hI
      have h_29 := rt_ok hRt (by first | (clear h_1 hg_e1 h_2 hr_e1 h_3 hg_a9 hg_f0 h_5 h_6 h_7 h_14 h_19 h_20 h_21 h_22 h_23 h_24 h_25 h_26 h_27 h_28 h_8; omega) | omega)
      have hro_hRt := rt_ok hRt (by first | assumption | omega)
      refine v_gi (z := 5) (v := (-1)) c_152_1 kf_8_102 rfl (Nat.le_of_ble_eq_true rfl) rfl rfl hro_hRt.2.1 (q_iconst c_152_4 (v_ic_ne_f (t := 12) c_152_5 rfl (by decide) (q_iconst c_152_8 (q_goto (t := 13) c_152_9 rfl (v_zret c_152_13 rfl (by decide) (bk_inl (v_if_eq_f (t := 24) c_161_4 rfl (by decide) ?_)))))))
      refine q_aload_n c_161_7 rfl ?_
      have h_30 : -2147483648 ≤ (H (nx F e1 a9)) ∧ (H (nx F e1 a9)) ≤ 2147483647 := by rw [← hH (nx F e1 a9)]; exact ir_43 hI (nx F e1 a9)
      have h_31 : (nx F e1 a9) < 600 → (H (nx F e1 a9)) = (F (nx F e1 a9)) % 256 ∧ -128 ≤ (F (nx F e1 a9)) ∧ (F (nx F e1 a9)) ≤ 127 := fun q => hU (nx F e1 a9) (by omega) q
      have h_32 := hb_or (b := H) (e := e1) (r := (nx F e1 a9))
      have h_33 := hb_bd (b := H) (e := e1) (r := (nx F e1 a9)) (lo := -2147483648) (hi := 2147483647) h_30 (by decide)
      refine v_cv c_161_8 km_8_114 rfl rfl (Nat.le_of_ble_eq_true rfl) ⟨⟨rfl, rfl⟩, Nat.le_of_ble_eq_true rfl, rfl⟩ (Nat.le_of_ble_eq_true rfl) (Nat.le_of_ble_eq_true rfl) (f_154 (e1 := e1) (a9 := a9) (B := H) (r8 := (nx F e1 a9)) (r := (hb H e1 (nx F e1 a9))) hI ((hr_e1)) (((hro_hRt.2.2.1).trans ((hg_a9)))) (fun j => hH j) ((nx_tr hU ((rg_eq hg_a9 h_3).1) ((rg_eq hg_e1 h_1).2)).trans (rfl)) rfl (fun c_34 hI_35 hF_36 h_37 => (bk_inl (q_iload_n c_161_11 rfl (v_ic_eq_f (t := 24) c_161_12 rfl ⟨by first | exact q_681a4615b h_14 h_32 | omega, ⟨h_33.1, h_33.2⟩, by decide, by decide⟩ (q_aload_n c_161_15 rfl (q_iconst c_161_16 (q_aload_n c_161_17 rfl (v_gi (z := 4) (v := (nx F e1 a9)) c_161_18 kf_8_108 rfl (Nat.le_of_ble_eq_true rfl) rfl rfl (h_37) ?_)))))))))
      refine v_cv c_161_21 km_8_138 rfl rfl (Nat.le_of_ble_eq_true rfl) ⟨⟨rfl, rfl⟩, Nat.le_of_ble_eq_true rfl, rfl⟩ (Nat.le_of_ble_eq_true rfl) (Nat.le_of_ble_eq_true rfl) (q_aload_n c_153_0 rfl ?_)
      have kn_38 : Hid (c_34 41 5 = (-1)) := (hF_36 41 5 (fun h => absurd h.2 (ni rfl))).trans hro_hRt.2.1
      refine v_gi (z := 5) (v := (-1)) c_153_1 kf_8_102 rfl (Nat.le_of_ble_eq_true rfl) rfl rfl (hid kn_38) (q_iconst c_153_4 (v_ic_eq_t (t := 9) c_153_5 rfl (by decide) (q_aload_n c_153_9 rfl (q_iload_n c_153_10 rfl (v_pi (z := 5) c_153_11 kf_8_102 rfl (Nat.le_of_ble_eq_true rfl) rfl rfl rfl (by decide) (q_aload_n c_153_14 rfl (q_iload_n c_153_15 rfl ?_)))))))
      refine v_pi (z := 6) c_153_16 kf_8_105 rfl (Nat.le_of_ble_eq_true rfl) rfl rfl rfl (by decide) (q_vret rfl rfl (bk_inl (q_aload_n c_161_24 rfl (v_cv c_161_25 km_8_131 rfl rfl (Nat.le_of_ble_eq_true rfl) ⟨⟨rfl, rfl⟩, Nat.le_of_ble_eq_true rfl, rfl⟩ (Nat.le_of_ble_eq_true rfl) (Nat.le_of_ble_eq_true rfl) (q_aload_n c_152_0 rfl (v_gi (z := 5) (v := (nx F e1 a9)) c_152_1 kf_8_102 rfl (Nat.le_of_ble_eq_true rfl) rfl rfl ((up_n (by decide)).trans (up_e rfl)) (q_iconst c_152_4 ?_)))))))
      refine v_ic_ne_t (t := 12) c_152_5 rfl ⟨by first | exact q_90762221b h_21 h_22 | omega, ⟨by first | exact q_17990f574 h_21 h_22 | omega, by first | exact q_757c304f4 h_21 h_22 | omega⟩, by decide, by decide⟩ (q_iconst c_152_12 (v_zret c_152_13 rfl (by decide) (bk_inl (v_if_eq_t (t := 41) c_161_28 rfl (by decide) (q_vret rfl rfl ?_)))))
      have hI_39 := iw_41_5 (v := (nx F e1 a9)) hI_35 ⟨by first | exact q_5ce231cbd h_21 h_22 | omega, by first | exact q_6094bb0fa h_23 h_24 | omega⟩
      have hI_40 := iw_41_6 (v := 1) hI_39 ⟨by decide, by decide⟩
      have h_41 : (up (up c_34 41 5 (nx F e1 a9)) 41 6 1) 41 5 = (nx F e1 a9) := ((up_n (by decide)).trans (up_e rfl))
      have h_42 : (up (up c_34 41 5 (nx F e1 a9)) 41 6 1) 41 4 = (nx F e1 a9) := ((up_n (by decide)).trans ((up_n (by decide)).trans (h_37)))
      have h_43 : (up (up c_34 41 5 (nx F e1 a9)) 41 6 1) 41 6 = 1 := (up_e rfl)
      exact K (up (up c_34 41 5 (nx F e1 a9)) 41 6 1)  hI_40 (fun a j hm => (up_b (Decidable.or_iff_not_imp_left.mpr (fun h1 h2 => hm (Or.inr (Or.inr ⟨Decidable.not_not.mp h1, h2⟩))))).trans ((up_b (Decidable.or_iff_not_imp_left.mpr (fun h1 h2 => hm (Or.inr (Or.inl ⟨Decidable.not_not.mp h1, h2⟩))))).trans (hF_36 a j (fun h => hm (Or.inl h))))) (rt_i2 ⟨⟨by first | exact q_5935f82f1 h_20 | omega, by first | exact q_63461c6bf h_20 | omega⟩, by first | exact q_88dc5fb99 h_24 | omega, by first | exact q_a060fbdd4 h_21 h_22 h_24 | omega, by first | exact q_69efb464e h_20 | omega⟩) (Or.inr (Or.inl (by first | exact q_e2d2b4ae2 h_20 | omega))) (Or.inr (Or.inl (by first | exact q_e2d2b4ae2 h_20 | omega)))
    · refine v_ic_ge_f (t := 55) c_4_20 rfl ⟨by first | exact q_a3bce4abb h_3 h_6 hg_a9 | omega, (Int.not_le.mp h_14), (Int.le_trans (rg_eq hg_e1 h_1).2 (by decide))⟩ (q_aload_n c_4_23 rfl (v_gr (t := 2) c_4_24 kf_5_9 rfl (Nat.le_of_ble_eq_true rfl) rfl (q_iload_n c_4_27 rfl ?_)))
      have kn_44 : Hid (c_9 2 (nx F e1 a9) = (F (nx F e1 a9))) := (hF_11 2 (nx F e1 a9) (fun h => absurd h.1 (nn rfl))).trans (hF (nx F e1 a9))
      refine v_ba (v := (F (nx F e1 a9))) c_4_28 rfl (by decide) (by decide) ⟨by first | exact q_828522d69 h_3 h_6 hg_a9 | omega, by first | exact q_b867e77c7 h_14 h_2 hr_e1 | omega⟩ (hid kn_44) (q_aload_n c_4_29 rfl (q_iload_n c_4_30 rfl (v_sch 44 c_4_31 rfl (by omega) (Nat.le_of_ble_eq_true rfl) (by decide) (by decide) (by decide) ?_)))
      by_cases h_45 : (F (nx F e1 a9)) ≠ 44
      · refine v_ic_ne_t (t := 49) c_4_34 rfl ⟨h_45, ⟨h_7.1, h_7.2⟩, by decide, by decide⟩ (v_iinc (v := 1) c_4_49 rfl (Nat.le_of_ble_eq_true rfl) (by decide) (q_goto (t := 7) c_4_52 rfl (q_iload_n c_4_7 rfl (q_aload_n c_4_8 rfl (v_sln 1 c_4_9 rfl (by omega) (Nat.le_of_ble_eq_true rfl) (by decide) (by decide) (v_ic_ge_t (t := 55) c_4_12 rfl (by decide) (q_iconst c_4_55 ?_)))))))
        refine q_iret c_4_56 rfl (bk_inl (q_iconst c_11_12 (v_ic_ne_f (t := 25) c_11_13 rfl (by decide) (q_aload_n c_11_16 rfl (q_iconst c_11_17 (q_aload_n c_11_18 rfl (v_gi (z := 2) (v := (nx F e1 a9)) c_11_19 kf_5_35 rfl (Nat.le_of_ble_eq_true rfl) rfl rfl (hz_12) ?_)))))))
        refine v_cv c_11_22 km_5_52 rfl rfl (Nat.le_of_ble_eq_true rfl) ⟨⟨rfl, rfl⟩, Nat.le_of_ble_eq_true rfl, rfl⟩ (Nat.le_of_ble_eq_true rfl) (Nat.le_of_ble_eq_true rfl) (q_aload_n c_7_0 rfl ?_)
        have kn_46 : Hid (c_9 1 4 = 0) := (hF_11 1 4 (fun h => absurd h.2 (ni rfl))).trans (hs9)
        refine v_gi (z := 4) (v := 0) c_7_1 kf_5_38 rfl (Nat.le_of_ble_eq_true rfl) rfl rfl (hid kn_46) (v_if_ne_f (t := 17) c_7_4 rfl (by decide) (q_aload_n c_7_7 rfl (q_iload_n c_7_8 rfl (v_pi (z := 4) c_7_9 kf_5_38 rfl (Nat.le_of_ble_eq_true rfl) rfl rfl rfl (by decide) (q_aload_n c_7_12 rfl (q_iload_n c_7_13 rfl (v_pi (z := 5) c_7_14 kf_5_15 rfl (Nat.le_of_ble_eq_true rfl) rfl rfl rfl (by decide) ?_)))))))
        refine q_vret rfl rfl (bk_inl (q_vret rfl rfl ?_))
        have hI_47 := iw_1_4 (v := 1) hI_10 ⟨by decide, by decide⟩
        have hI_48 := iw_1_5 (v := (nx F e1 a9)) hI_47 ⟨by first | exact q_e3021f629 h_3 h_6 hg_a9 | omega, by first | exact q_15401fa7c h_14 h_2 hr_e1 | omega⟩
        intro hE_49
        have hW : Wd P Q P P (up (up c_9 1 4 1) 1 5 (nx F e1 a9)) = Wd P Q P P m9 := (Prod.mk.inj (Prod.mk.inj hE_49).2).1
        have h_50 := ir_1_4 hJ9
        have h_51 : m9 1 4 = 1 := wd_fv (z := 4) 4 rfl hW rfl rfl rfl rfl (by decide) ((up_n (by decide)).trans (up_e rfl)) ⟨by decide, by decide⟩ ⟨(Int.le_trans (by decide) h_50.1), (Int.le_trans h_50.2 (by decide))⟩
        have h_52 := ir_1_2 hJ9
        have h_53 : m9 1 2 = (nx F e1 a9) := wd_fv (z := 2) 2 rfl hW rfl rfl rfl rfl (by decide) ((up_n (by decide)).trans ((up_n (by decide)).trans (hz_12))) ⟨by first | exact q_a3bce4abb h_3 h_6 hg_a9 | omega, by first | exact q_2e6ee4ea6 h_14 h_2 hr_e1 | omega⟩ ⟨(Int.le_trans (by decide) h_52.1), (Int.le_trans h_52.2 (by decide))⟩
        have h_54 := ir_1_5 hJ9
        have h_55 : m9 1 5 = (nx F e1 a9) := wd_fv (z := 5) 5 rfl hW rfl rfl rfl rfl (by decide) (up_e rfl) ⟨by first | exact q_17990f574 h_52 h_53 | omega, by first | exact q_757c304f4 h_52 h_53 | omega⟩ ⟨(Int.le_trans (by decide) h_54.1), (Int.le_trans h_54.2 (by decide))⟩
        refine q_aload_n c_161_0 rfl (v_cv c_161_1 km_8_131 rfl rfl (Nat.le_of_ble_eq_true rfl) ⟨⟨rfl, rfl⟩, Nat.le_of_ble_eq_true rfl, rfl⟩ (Nat.le_of_ble_eq_true rfl) (Nat.le_of_ble_eq_true rfl) (q_aload_n c_152_0 rfl ?_))
        have h_56 := ir_41_5 hI
        have h_57 := ir_1_5 hJ
        have h_58 := ir_41_4 hI
        have h_59 := ir_41_6 hI
        have h_60 := rt_ok hRt (by first | (clear h_1 hg_e1 h_2 hr_e1 h_3 hg_a9 hg_f0 h_5 h_6 h_7 h_14 h_50 h_51 h_52 h_53 h_54 h_55 h_56 h_57 h_58 h_59 h_8 h_45; omega) | omega)
        have hro_hRt := rt_ok hRt (by first | assumption | omega)
        refine v_gi (z := 5) (v := (-1)) c_152_1 kf_8_102 rfl (Nat.le_of_ble_eq_true rfl) rfl rfl hro_hRt.2.1 (q_iconst c_152_4 (v_ic_ne_f (t := 12) c_152_5 rfl (by decide) (q_iconst c_152_8 (q_goto (t := 13) c_152_9 rfl (v_zret c_152_13 rfl (by decide) (bk_inl (v_if_eq_f (t := 24) c_161_4 rfl (by decide) ?_)))))))
        refine q_aload_n c_161_7 rfl ?_
        have h_61 : -2147483648 ≤ (H (nx F e1 a9)) ∧ (H (nx F e1 a9)) ≤ 2147483647 := by rw [← hH (nx F e1 a9)]; exact ir_43 hI (nx F e1 a9)
        have h_62 := hU (nx F e1 a9) (by first | exact q_4ad75e8a2 h_52 h_53 | omega) (by first | exact q_b867e77c7 h_14 h_2 hr_e1 | omega)
        have h_63 := hb_or (b := H) (e := e1) (r := (nx F e1 a9))
        have h_64 := hb_bd (b := H) (e := e1) (r := (nx F e1 a9)) (lo := -2147483648) (hi := 2147483647) h_61 (by decide)
        refine v_cv c_161_8 km_8_114 rfl rfl (Nat.le_of_ble_eq_true rfl) ⟨⟨rfl, rfl⟩, Nat.le_of_ble_eq_true rfl, rfl⟩ (Nat.le_of_ble_eq_true rfl) (Nat.le_of_ble_eq_true rfl) (f_154 (e1 := e1) (a9 := a9) (B := H) (r8 := (nx F e1 a9)) (r := (hb H e1 (nx F e1 a9))) hI ((hr_e1)) (((hro_hRt.2.2.1).trans ((hg_a9)))) (fun j => hH j) ((nx_tr hU ((rg_eq hg_a9 h_3).1) ((rg_eq hg_e1 h_1).2)).trans (rfl)) rfl (fun c_65 hI_66 hF_67 h_68 => (bk_inl (q_iload_n c_161_11 rfl (v_ic_eq_f (t := 24) c_161_12 rfl ⟨by first | (clear h_1 hg_e1 h_2 hr_e1 h_3 hg_a9 h_4 hg_f0 h_5 h_6 h_7 h_14 h_50 h_51 h_52 h_53 h_54 h_55 h_56 h_57 h_58 h_59 h_60 h_61 h_64 h_8; omega) | omega, ⟨h_64.1, h_64.2⟩, by decide, by decide⟩ (q_aload_n c_161_15 rfl (q_iconst c_161_16 (q_aload_n c_161_17 rfl (v_gi (z := 4) (v := (nx F e1 a9)) c_161_18 kf_8_108 rfl (Nat.le_of_ble_eq_true rfl) rfl rfl (h_68) ?_)))))))))
        refine v_cv c_161_21 km_8_138 rfl rfl (Nat.le_of_ble_eq_true rfl) ⟨⟨rfl, rfl⟩, Nat.le_of_ble_eq_true rfl, rfl⟩ (Nat.le_of_ble_eq_true rfl) (Nat.le_of_ble_eq_true rfl) (q_aload_n c_153_0 rfl ?_)
        have kn_69 : Hid (c_65 41 5 = (-1)) := (hF_67 41 5 (fun h => absurd h.2 (ni rfl))).trans hro_hRt.2.1
        refine v_gi (z := 5) (v := (-1)) c_153_1 kf_8_102 rfl (Nat.le_of_ble_eq_true rfl) rfl rfl (hid kn_69) (q_iconst c_153_4 (v_ic_eq_t (t := 9) c_153_5 rfl (by decide) (q_aload_n c_153_9 rfl (q_iload_n c_153_10 rfl (v_pi (z := 5) c_153_11 kf_8_102 rfl (Nat.le_of_ble_eq_true rfl) rfl rfl rfl (by decide) (q_aload_n c_153_14 rfl (q_iload_n c_153_15 rfl ?_)))))))
        refine v_pi (z := 6) c_153_16 kf_8_105 rfl (Nat.le_of_ble_eq_true rfl) rfl rfl rfl (by decide) (q_vret rfl rfl (bk_inl (q_aload_n c_161_24 rfl (v_cv c_161_25 km_8_131 rfl rfl (Nat.le_of_ble_eq_true rfl) ⟨⟨rfl, rfl⟩, Nat.le_of_ble_eq_true rfl, rfl⟩ (Nat.le_of_ble_eq_true rfl) (Nat.le_of_ble_eq_true rfl) (q_aload_n c_152_0 rfl (v_gi (z := 5) (v := (nx F e1 a9)) c_152_1 kf_8_102 rfl (Nat.le_of_ble_eq_true rfl) rfl rfl ((up_n (by decide)).trans (up_e rfl)) (q_iconst c_152_4 ?_)))))))
        refine v_ic_ne_t (t := 12) c_152_5 rfl ⟨by first | exact q_90762221b h_52 h_53 | omega, ⟨by first | exact q_17990f574 h_52 h_53 | omega, by first | exact q_783468581 h_54 h_55 | omega⟩, by decide, by decide⟩ (q_iconst c_152_12 (v_zret c_152_13 rfl (by decide) (bk_inl (v_if_eq_t (t := 41) c_161_28 rfl (by decide) (q_vret rfl rfl ?_)))))
        have hI_70 := iw_41_5 (v := (nx F e1 a9)) hI_66 ⟨by first | exact q_5ce231cbd h_52 h_53 | omega, by first | exact q_deaeab841 h_52 h_53 | omega⟩
        have hI_71 := iw_41_6 (v := 1) hI_70 ⟨by decide, by decide⟩
        have h_72 : (up (up c_65 41 5 (nx F e1 a9)) 41 6 1) 41 5 = (nx F e1 a9) := ((up_n (by decide)).trans (up_e rfl))
        have h_73 : (up (up c_65 41 5 (nx F e1 a9)) 41 6 1) 41 4 = (nx F e1 a9) := ((up_n (by decide)).trans ((up_n (by decide)).trans (h_68)))
        have h_74 : (up (up c_65 41 5 (nx F e1 a9)) 41 6 1) 41 6 = 1 := (up_e rfl)
        exact K (up (up c_65 41 5 (nx F e1 a9)) 41 6 1)  hI_71 (fun a j hm => (up_b (Decidable.or_iff_not_imp_left.mpr (fun h1 h2 => hm (Or.inr (Or.inr ⟨Decidable.not_not.mp h1, h2⟩))))).trans ((up_b (Decidable.or_iff_not_imp_left.mpr (fun h1 h2 => hm (Or.inr (Or.inl ⟨Decidable.not_not.mp h1, h2⟩))))).trans (hF_67 a j (fun h => hm (Or.inl h))))) (rt_i2 ⟨⟨by first | exact q_5935f82f1 h_51 | omega, by first | exact q_63461c6bf h_51 | omega⟩, by first | exact q_88dc5fb99 h_55 | omega, by first | exact q_a060fbdd4 h_52 h_53 h_55 | omega, by first | exact q_69efb464e h_51 | omega⟩) (Or.inr (Or.inl (by first | exact q_e2d2b4ae2 h_51 | omega))) (Or.inr (Or.inl (by first | exact q_e2d2b4ae2 h_51 | omega)))
      · refine v_ic_ne_f (t := 49) c_4_34 rfl (Decidable.not_not.mp h_45) (q_aload_n c_4_37 rfl (q_dup c_4_38 rfl (v_gi (z := 2) (v := (nx F e1 a9)) c_4_39 kf_5_35 rfl (Nat.le_of_ble_eq_true rfl) rfl rfl (hz_12) (q_iconst c_4_42 (v_iadd (v := (nx F e1 a9) + 1) c_4_43 rfl (v_pi (z := 2) c_4_44 kf_5_35 rfl (Nat.le_of_ble_eq_true rfl) rfl rfl rfl (by decide) (q_iload_n c_4_47 rfl ?_)))))))
        refine q_iret c_4_48 rfl (bk_inl (q_iconst c_11_12 (v_ic_ne_t (t := 25) c_11_13 rfl (by decide) (q_vret rfl rfl ?_))))
        have hI_75 := iw_1_2 (v := (nx F e1 a9) + 1) hI_10 ⟨by first | exact q_e260493d5 h_3 h_6 hg_a9 | omega, by first | exact q_6ea34058e h_14 h_2 hr_e1 | omega⟩
        intro hE_76
        have hW : Wd P Q P P (up c_9 1 2 ((nx F e1 a9) + 1)) = Wd P Q P P m9 := (Prod.mk.inj (Prod.mk.inj hE_76).2).1
        have kn_77 : Hid (c_9 1 4 = 0) := (hF_11 1 4 (fun h => absurd h.2 (ni rfl))).trans (hs9)
        have h_78 := ir_1_4 hJ9
        have h_79 : m9 1 4 = 0 := wd_fv (z := 4) 4 rfl hW rfl rfl rfl rfl (by decide) ((up_n (by decide)).trans (hid kn_77)) ⟨by decide, by decide⟩ ⟨(Int.le_trans (by decide) h_78.1), (Int.le_trans h_78.2 (by decide))⟩
        have h_80 := ir_1_2 hJ9
        have h_81 : m9 1 2 = (nx F e1 a9) + 1 := wd_fv (z := 2) 2 rfl hW rfl rfl rfl rfl (by decide) (up_e rfl) ⟨by first | exact q_86633cc1b h_3 h_6 hg_a9 | omega, by first | exact q_1da59465c h_14 h_2 hr_e1 | omega⟩ ⟨(Int.le_trans (by decide) h_80.1), (Int.le_trans h_80.2 (by decide))⟩
        have kn_82 : Hid (c_9 1 5 = (-1)) := (hF_11 1 5 (fun h => absurd h.2 (ni rfl))).trans (hs8)
        have h_83 := ir_1_5 hJ9
        have h_84 : m9 1 5 = (-1) := wd_fv (z := 5) 5 rfl hW rfl rfl rfl rfl (by decide) ((up_n (by decide)).trans (hid kn_82)) ⟨by decide, by decide⟩ ⟨(Int.le_trans (by decide) h_83.1), (Int.le_trans h_83.2 (by decide))⟩
        refine q_aload_n c_161_0 rfl (v_cv c_161_1 km_8_131 rfl rfl (Nat.le_of_ble_eq_true rfl) ⟨⟨rfl, rfl⟩, Nat.le_of_ble_eq_true rfl, rfl⟩ (Nat.le_of_ble_eq_true rfl) (Nat.le_of_ble_eq_true rfl) (q_aload_n c_152_0 rfl ?_))
        have h_85 := ir_41_5 hI
        have h_86 := ir_1_5 hJ
        have h_87 := ir_41_4 hI
        have h_88 := ir_41_6 hI
        have h_89 := rt_ok hRt (by first | (clear h_1 hg_e1 h_2 hr_e1 h_3 hg_a9 hg_f0 h_5 h_6 h_7 h_14 h_45 h_78 h_79 h_80 h_81 h_83 h_84 h_85 h_86 h_87 h_88 h_8; omega) | omega)
        have hro_hRt := rt_ok hRt (by first | assumption | omega)
        refine v_gi (z := 5) (v := (-1)) c_152_1 kf_8_102 rfl (Nat.le_of_ble_eq_true rfl) rfl rfl hro_hRt.2.1 (q_iconst c_152_4 (v_ic_ne_f (t := 12) c_152_5 rfl (by decide) (q_iconst c_152_8 (q_goto (t := 13) c_152_9 rfl (v_zret c_152_13 rfl (by decide) (bk_inl (v_if_eq_f (t := 24) c_161_4 rfl (by decide) ?_)))))))
        refine q_aload_n c_161_7 rfl ?_
        have h_90 : -2147483648 ≤ (H (nx F e1 a9)) ∧ (H (nx F e1 a9)) ≤ 2147483647 := by rw [← hH (nx F e1 a9)]; exact ir_43 hI (nx F e1 a9)
        have h_91 := hU (nx F e1 a9) (by first | exact q_828522d69 h_3 h_6 hg_a9 | omega) (by first | exact q_b03d63f6f h_80 h_81 | omega)
        have h_92 := hb_or (b := H) (e := e1) (r := (nx F e1 a9))
        have h_93 := hb_bd (b := H) (e := e1) (r := (nx F e1 a9)) (lo := -2147483648) (hi := 2147483647) h_90 (by decide)
        refine v_cv c_161_8 km_8_114 rfl rfl (Nat.le_of_ble_eq_true rfl) ⟨⟨rfl, rfl⟩, Nat.le_of_ble_eq_true rfl, rfl⟩ (Nat.le_of_ble_eq_true rfl) (Nat.le_of_ble_eq_true rfl) (f_154 (e1 := e1) (a9 := a9) (B := H) (r8 := (nx F e1 a9)) (r := (hb H e1 (nx F e1 a9))) hI ((hr_e1)) (((hro_hRt.2.2.1).trans ((hg_a9)))) (fun j => hH j) ((nx_tr hU ((rg_eq hg_a9 h_3).1) ((rg_eq hg_e1 h_1).2)).trans (rfl)) rfl (fun c_94 hI_95 hF_96 h_97 => (bk_inl (q_iload_n c_161_11 rfl (v_ic_eq_t (t := 24) c_161_12 rfl (by first | (clear h_1 hg_e1 h_2 hr_e1 h_3 hg_a9 h_4 hg_f0 h_5 h_6 h_7 h_78 h_79 h_80 h_81 h_83 h_84 h_85 h_86 h_87 h_88 h_89 h_90 h_93 h_8; omega) | omega) (q_aload_n c_161_24 rfl (v_cv c_161_25 km_8_131 rfl rfl (Nat.le_of_ble_eq_true rfl) ⟨⟨rfl, rfl⟩, Nat.le_of_ble_eq_true rfl, rfl⟩ (Nat.le_of_ble_eq_true rfl) (Nat.le_of_ble_eq_true rfl) (q_aload_n c_152_0 rfl ?_))))))))
        have kn_98 : Hid (c_94 41 5 = (-1)) := (hF_96 41 5 (fun h => absurd h.2 (ni rfl))).trans hro_hRt.2.1
        refine v_gi (z := 5) (v := (-1)) c_152_1 kf_8_102 rfl (Nat.le_of_ble_eq_true rfl) rfl rfl (hid kn_98) (q_iconst c_152_4 (v_ic_ne_f (t := 12) c_152_5 rfl (by decide) (q_iconst c_152_8 (q_goto (t := 13) c_152_9 rfl (v_zret c_152_13 rfl (by decide) (bk_inl (v_if_eq_f (t := 41) c_161_28 rfl (by decide) ?_)))))))
        refine q_aload_n c_161_31 rfl (q_dup c_161_32 rfl (v_gi (z := 4) (v := (nx F e1 a9)) c_161_33 kf_8_108 rfl (Nat.le_of_ble_eq_true rfl) rfl rfl (h_97) (q_iconst c_161_36 (v_iadd (v := (nx F e1 a9) + 1) c_161_37 rfl (v_pi (z := 4) c_161_38 kf_8_108 rfl (Nat.le_of_ble_eq_true rfl) rfl rfl rfl (by decide) (q_vret rfl rfl ?_))))))
        have hI_99 := iw_41_4 (v := (nx F e1 a9) + 1) hI_95 ⟨by first | exact q_e260493d5 h_3 h_6 hg_a9 | omega, by first | exact q_369ecf7f1 h_80 h_81 | omega⟩
        have h_100 : (up c_94 41 4 ((nx F e1 a9) + 1)) 41 5 = (-1) := ((up_n (by decide)).trans (hid kn_98))
        have h_101 : (up c_94 41 4 ((nx F e1 a9) + 1)) 41 4 = (nx F e1 a9) + 1 := (up_e rfl)
        have kn_102 : Hid (c_94 41 6 = c 41 6) := hF_96 41 6 (fun h => absurd h.2 (ni rfl))
        have h_103 : (up c_94 41 4 ((nx F e1 a9) + 1)) 41 6 = c 41 6 := ((up_n (by decide)).trans (hid kn_102))
        exact K (up c_94 41 4 ((nx F e1 a9) + 1))  hI_99 (fun a j hm => (up_b (Decidable.or_iff_not_imp_left.mpr (fun h1 h2 => hm (Or.inl ⟨Decidable.not_not.mp h1, h2⟩)))).trans (hF_96 a j (fun h => hm (Or.inl h)))) (rt_i1 ⟨by first | exact q_f6b658f58 h_78 h_79 | omega, by first | assumption | omega, by first | exact q_58a890de0 h_81 | omega, by first | exact q_f39655ca6 h_83 h_84 | omega⟩) (Or.inr (Or.inr ⟨by first | exact q_1caa53e22 h_6 h_81 | omega, by first | exact q_639ed28ca h_14 h_81 | omega⟩)) (Or.inr (Or.inr (by first | (clear h_1 hg_e1 h_2 hr_e1 h_3 hg_a9 h_5 h_6 h_7 h_14 h_45 h_78 h_79 h_80 h_81 h_83 h_84 h_85 h_86 h_87 h_88 h_89 h_90 h_91 h_93 h_8 h_92; omega) | omega)))
  · skip
    refine q_aload_n c_11_0 rfl (v_cv c_11_1 km_5_45 rfl rfl (Nat.le_of_ble_eq_true rfl) ⟨⟨rfl, rfl⟩, Nat.le_of_ble_eq_true rfl, rfl⟩ (Nat.le_of_ble_eq_true rfl) (Nat.le_of_ble_eq_true rfl) (q_aload_n c_2_0 rfl (v_gi (z := 4) (v := f0) c_2_1 kf_5_38 rfl (Nat.le_of_ble_eq_true rfl) rfl rfl (hg_f0) (v_if_ne_t (t := 11) c_2_4 rfl ⟨by omega, ⟨(Int.le_trans (by decide) (rg_eq hg_f0 h_4).1), (Int.le_trans (rg_eq hg_f0 h_4).2 (by decide))⟩, by decide, by decide⟩ (q_iconst c_2_11 (v_zret c_2_12 rfl (by decide) (bk_inl ?_)))))))
    refine v_if_eq_t (t := 25) c_11_4 rfl (by decide) (q_vret rfl rfl ?_)
    intro hE_104
    have hW : Wd P Q P P m = Wd P Q P P m9 := (Prod.mk.inj (Prod.mk.inj hE_104).2).1
    have h_105 := ir_1_4 hJ9
    have h_106 : m9 1 4 = f0 := wd_fv (z := 4) 4 rfl hW rfl rfl rfl rfl (by decide) (hg_f0) ⟨(Int.le_trans (by decide) (rg_eq hg_f0 h_4).1), (Int.le_trans (rg_eq hg_f0 h_4).2 (by decide))⟩ ⟨(Int.le_trans (by decide) h_105.1), (Int.le_trans h_105.2 (by decide))⟩
    have h_107 := ir_1_2 hJ9
    have h_108 : m9 1 2 = a9 := wd_fv (z := 2) 2 rfl hW rfl rfl rfl rfl (by decide) (hg_a9) ⟨(Int.le_trans (by decide) (rg_eq hg_a9 h_3).1), (Int.le_trans (rg_eq hg_a9 h_3).2 (by decide))⟩ ⟨(Int.le_trans (by decide) h_107.1), (Int.le_trans h_107.2 (by decide))⟩
    have h_109 := ir_1_5 hJ
    have h_110 := ir_1_5 hJ9
    have h_111 : m9 1 5 = m 1 5 := wd_fv (z := 5) 5 rfl hW rfl rfl rfl rfl (by decide) rfl ⟨(Int.le_trans (by decide) h_109.1), (Int.le_trans h_109.2 (by decide))⟩ ⟨(Int.le_trans (by decide) h_110.1), (Int.le_trans h_110.2 (by decide))⟩
    refine q_aload_n c_161_0 rfl (v_cv c_161_1 km_8_131 rfl rfl (Nat.le_of_ble_eq_true rfl) ⟨⟨rfl, rfl⟩, Nat.le_of_ble_eq_true rfl, rfl⟩ (Nat.le_of_ble_eq_true rfl) (Nat.le_of_ble_eq_true rfl) (q_aload_n c_152_0 rfl ?_))
    have h_112 := ir_41_5 hI
    have h_113 := ir_41_4 hI
    have h_114 := ir_41_6 hI
    have h_115 := rt_bad hRt (by first | (clear h_1 hg_e1 h_2 hr_e1 h_3 hg_a9 h_4 hg_f0 h_105 h_106 h_107 h_108 h_109 h_110 h_111 h_112 h_113 h_114; omega) | omega)
    have hrb_hRt := rt_bad hRt (by first | exact q_5e082ea92 h_115 hg_f0 | omega)
    refine v_gi (z := 5) (v := m 1 5) c_152_1 kf_8_102 rfl (Nat.le_of_ble_eq_true rfl) rfl rfl hrb_hRt.2.1 (q_iconst c_152_4 (v_ic_ne_t (t := 12) c_152_5 rfl ⟨by first | exact q_0f78863d3 h_115 | omega, ⟨(Int.le_trans (by decide) h_109.1), (Int.le_trans h_109.2 (by decide))⟩, by decide, by decide⟩ (q_iconst c_152_12 (v_zret c_152_13 rfl (by decide) (bk_inl (v_if_eq_t (t := 24) c_161_4 rfl (by decide) (q_aload_n c_161_24 rfl ?_)))))))
    refine v_cv c_161_25 km_8_131 rfl rfl (Nat.le_of_ble_eq_true rfl) ⟨⟨rfl, rfl⟩, Nat.le_of_ble_eq_true rfl, rfl⟩ (Nat.le_of_ble_eq_true rfl) (Nat.le_of_ble_eq_true rfl) (q_aload_n c_152_0 rfl (v_gi (z := 5) (v := m 1 5) c_152_1 kf_8_102 rfl (Nat.le_of_ble_eq_true rfl) rfl rfl hrb_hRt.2.1 (q_iconst c_152_4 (v_ic_ne_t (t := 12) c_152_5 rfl ⟨by first | exact q_0f78863d3 h_115 | omega, ⟨(Int.le_trans (by decide) h_109.1), (Int.le_trans h_109.2 (by decide))⟩, by decide, by decide⟩ (q_iconst c_152_12 (v_zret c_152_13 rfl (by decide) (bk_inl ?_)))))))
    refine v_if_eq_t (t := 41) c_161_28 rfl (by decide) (q_vret rfl rfl ?_)
    have h_116 : c 41 5 = m 1 5 := hrb_hRt.2.1
    have h_117 : c 41 6 = f0 := ((hrb_hRt.2.2.2).trans ((hg_f0)))
    exact K c  hI (fun a j hm => rfl) (rt_i2 ⟨⟨by first | exact q_3b8ab523e h_106 h_115 hg_f0 | omega, by first | exact q_c99d6ea93 h_105 | omega⟩, by first | exact q_88dc5fb99 h_111 | omega, by first | exact q_cb71117a2 h_111 h_115 | omega, by first | exact q_88dc5fb99 h_106 | omega⟩) (Or.inr (Or.inl (by first | exact q_2ce17e943 h_106 h_115 hg_f0 | omega))) (Or.inr (Or.inl (by first | exact q_2ce17e943 h_106 h_115 hg_f0 | omega)))

