/-! ===== contracts 19 ===== -/
theorem q_2a2e68b1b {x0 : Int} (f0 : 0 ≤ x0 ∧ x0 ≤ 16) (f1 : x0 ≠ 0) : 0 ≤ x0 - 1 := by omega
theorem q_9750a9c5c {x0 : Int} (f0 : 0 ≤ x0 ∧ x0 ≤ 4) : x0 + 30 < 37 := by omega
theorem q_8e33475e7 {x0 x1 : Int} (f0 : 0 ≤ x0 ∧ x0 ≤ 4) (f1 : ¬ (x1 ≥ x0)) : x1 + 1 ≤ 4 := by omega
theorem q_fe18d6d95 {x0 : Int} (f0 : 0 ≤ x0 ∧ x0 ≤ 50) : (-2147483648) ≤ x0 := by omega
theorem q_5d4e5294a {x0 : Int} (f0 : 0 ≤ x0 ∧ x0 ≤ 50) : x0 ≤ 2147483647 := by omega
theorem q_7e8f1d31c {x0 : Int} (f0 : ¬ (x0 < 0)) : 0 ≤ x0 + 24 := by omega
theorem q_3aa97594e {x0 x1 : Int} (f0 : 0 ≤ x0 ∧ x0 ≤ 6) (f1 : ¬ (x1 > x0 - 1)) : x1 + 24 < 37 := by omega
theorem q_490e7f1d7 {x0 x1 x2 : Int} (f0 : 0 ≤ x0 ∧ x0 ≤ 6) (f1 : ¬ (x1 ≥ 4)) (f2 : ¬ (x2 > x0 - 1)) : 4 * x2 + x1 < 24 := by omega
theorem q_cc0c3eecc {x0 x1 : Int} (f0 : ¬ (x0 < 0)) (f1 : ¬ (x1 < 0)) : 0 ≤ 4 * x1 + x0 := by omega
theorem q_6645f81e3 {x0 x1 x2 : Int} (f0 : 0 ≤ x0 ∧ x0 ≤ 6) (f1 : ¬ (x1 ≥ 4)) (f2 : ¬ (x2 > x0 - 1)) : 4 * x2 + x1 < 37 := by omega
theorem q_8256bb04b {x0 x1 : Int} (f0 : ¬ (x0 < 0)) (f1 : ¬ (x1 < 0)) : 0 ≤ 3 * x1 + x0 := by omega
theorem q_c1df8a943 {x0 x1 x2 : Int} (f0 : 0 ≤ x0 ∧ x0 ≤ 4) (f1 : ¬ (x1 > 2)) (f2 : ¬ (x2 > x0 - 1)) : 3 * x2 + x1 < 12 := by omega
theorem q_18ebff911 {x0 : Int} (f0 : ¬ (x0 < 0)) : 0 ≤ x0 + 30 := by omega
theorem q_ebe6a6f81 {x0 x1 : Int} (f0 : 0 ≤ x0 ∧ x0 ≤ 4) (f1 : ¬ (x1 > x0 - 1)) : x1 + 30 < 37 := by omega
set_option maxRecDepth 100000 in
set_option maxHeartbeats 4000000 in
theorem s_207_l {sc : List Int32} {e : Int} {d u P Q : Nat} {c : ME} {a1 : Int} {Z : AR → Prop} (hI : Iv u e P Q c) (ha1 : (-2147483648) ≤ a1 ∧ a1 ≤ 2147483647) (K : ∀ (c2 : ME) (y : Int), Iv u e P Q c2 → (∀ (a : Nat) (j : Int), ¬ ((a = 41 ∧ j = 0) ∨ a = 42 ∨ (a = 41 ∧ j = 2) ∨ (a = 41 ∧ j = 3) ∨ (a = 41 ∧ j = 4) ∨ (a = 41 ∧ j = 5) ∨ (a = 41 ∧ j = 6) ∨ (a = 41 ∧ j = 7) ∨ (a = 41 ∧ j = 8) ∨ (a = 41 ∧ j = 48) ∨ a = 63 ∨ a = 64) → c2 a j = c a j) → (-2147483648) ≤ y ∧ y ≤ 2147483647 → ((c2 41 2 = 0 ∧ a1 ≥ 0 ∧ a1 ≤ c 41 2 ∧ a1 ≤ 60) ∨ (c2 41 2 = c 41 2 ∧ a1 < 0) ∨ (c2 41 2 = c 41 2 ∧ a1 > c 41 2) ∨ (c2 41 2 = c 41 2 ∧ a1 > 60)) → Z (.inl (some (vi y)), Wd P Q P P c2, 0, 0)) : ∀ n : Nat, (∀ (c2 : ME) (v2 : Int), Iv u e P Q c2 → (∀ (a : Nat) (j : Int), ¬ ((a = 41 ∧ j = 0) ∨ a = 42 ∨ (a = 41 ∧ j = 2) ∨ (a = 41 ∧ j = 3) ∨ (a = 41 ∧ j = 4) ∨ (a = 41 ∧ j = 5) ∨ (a = 41 ∧ j = 6) ∨ (a = 41 ∧ j = 7) ∨ (a = 41 ∧ j = 8) ∨ (a = 41 ∧ j = 48) ∨ a = 63 ∨ a = 64) → c2 a j = c a j) → 0 ≤ v2 ∧ v2 ≤ 4 → ((c2 41 2 = 0 ∧ a1 ≥ 0 ∧ a1 ≤ c 41 2 ∧ a1 ≤ 60)) → 1222 - 2 * v2 < (n : Int) → Wp sc (d + 9) 207 22 [(0, .ref 41), (1, vi a1), (2, vi v2)] [] (Wd P Q P P c2) 0 0 Z) ∧ (∀ (c2 : ME) (v2 : Int), Iv u e P Q c2 → (∀ (a : Nat) (j : Int), ¬ ((a = 41 ∧ j = 0) ∨ a = 42 ∨ (a = 41 ∧ j = 2) ∨ (a = 41 ∧ j = 3) ∨ (a = 41 ∧ j = 4) ∨ (a = 41 ∧ j = 5) ∨ (a = 41 ∧ j = 6) ∨ (a = 41 ∧ j = 7) ∨ (a = 41 ∧ j = 8) ∨ (a = 41 ∧ j = 48) ∨ a = 63 ∨ a = 64) → c2 a j = c a j) → (-2147483648) ≤ v2 ∧ v2 ≤ 2147483647 → ((c2 41 2 = 0 ∧ a1 ≥ 0 ∧ a1 ≤ c 41 2 ∧ a1 ≤ 60)) → 1211 - 2 * c2 41 4 < (n : Int) → Wp sc (d + 9) 207 42 [(0, .ref 41), (1, vi a1), (2, vi v2)] [] (Wd P Q P P c2) 0 0 Z)
  | 0 => by exact ⟨by (intro c2 v2 hI2 hF hv2 hx0 hm9; have hP := iv_P hI; have hQ := iv_Q hI; exfalso; omega), by (intro c2 v2 hI2 hF hv2 hx0 hm9; have hP := iv_P hI; have hQ := iv_Q hI; have h_183 := ir_41_4 hI2; exfalso; omega)⟩
  | n + 1 => by
    have hP := iv_P hI
    have hQ := iv_Q hI
    have ih := s_207_l (sc := sc) (d := d) hI ha1 K n
    refine ⟨?_, ?_⟩
    · skip
      intro c2 v2 hI2 hF hv2 hx0 hm9
      have h_1 := ir_41_2 hI
      have h_2 := ir_41_2 hI2
      refine q_iload_n rfl rfl (q_iconst rfl ?_)
      by_cases h_3 : v2 ≥ 4
      · refine v_ic_ge_t (t := 40) rfl rfl ⟨by decide, h_3, (Int.le_trans hv2.2 (by decide))⟩ (q_iconst rfl (q_istore_n rfl (Nat.le_of_ble_eq_true rfl) (Wp_ls [(0, .ref 41), (1, vi a1), (2, vi 0)] (lsub_cons rfl (lsub_cons rfl (lsub_cons rfl lsub_nil))) ?_)))
        have h_4 := ir_41_4 hI2
        exact ih.2 c2 0 hI2 (fun a j hm => hF a j (fun q => q.elim (fun h => hm (Or.inl h)) (fun q => q.elim (fun h => hm (Or.inr (Or.inl h))) (fun q => q.elim (fun h => hm (Or.inr (Or.inr (Or.inl h)))) (fun q => q.elim (fun h => hm (Or.inr (Or.inr (Or.inr (Or.inl h))))) (fun q => q.elim (fun h => hm (Or.inr (Or.inr (Or.inr (Or.inr (Or.inl h)))))) (fun q => q.elim (fun h => hm (Or.inr (Or.inr (Or.inr (Or.inr (Or.inr (Or.inl h))))))) (fun q => q.elim (fun h => hm (Or.inr (Or.inr (Or.inr (Or.inr (Or.inr (Or.inr (Or.inl h)))))))) (fun q => q.elim (fun h => hm (Or.inr (Or.inr (Or.inr (Or.inr (Or.inr (Or.inr (Or.inr (Or.inl h))))))))) (fun q => q.elim (fun h => hm (Or.inr (Or.inr (Or.inr (Or.inr (Or.inr (Or.inr (Or.inr (Or.inr (Or.inl h)))))))))) (fun q => q.elim (fun h => hm (Or.inr (Or.inr (Or.inr (Or.inr (Or.inr (Or.inr (Or.inr (Or.inr (Or.inr (Or.inl h))))))))))) (fun q => q.elim (fun h => hm (Or.inr (Or.inr (Or.inr (Or.inr (Or.inr (Or.inr (Or.inr (Or.inr (Or.inr (Or.inr (Or.inl h)))))))))))) (fun h => hm (Or.inr (Or.inr (Or.inr (Or.inr (Or.inr (Or.inr (Or.inr (Or.inr (Or.inr (Or.inr (Or.inr h)))))))))))))))))))))))) ⟨by decide, by decide⟩ ⟨by omega, by omega, by omega, by omega⟩ (by omega)
      · refine v_ic_ge_f (t := 40) rfl rfl ⟨(Int.le_trans (by decide) hv2.1), (Int.not_le.mp h_3), by decide⟩ (q_aload_n rfl rfl (v_gr (t := 63) rfl rfl rfl (Nat.le_of_ble_eq_true rfl) rfl (q_iload_n rfl rfl (q_iconst rfl (v_is rfl rfl (by decide) (by decide) ⟨hv2.1, by first | exact q_2e808647e h_3 | omega⟩ (v_iinc (v := v2 + 1) rfl rfl (Nat.le_of_ble_eq_true rfl) rfl (q_goto (t := 22) rfl rfl ?_)))))))
        have hI_5 := iw_63 (j := v2) (v := (-1)) hI2 ⟨by decide, by decide⟩
        refine Wp_ls [(0, .ref 41), (1, vi a1), (2, vi (v2 + 1))] (lsub_cons rfl (lsub_cons rfl (lsub_cons rfl lsub_nil))) ?_
        have h_6 : (up c2 63 v2 (-1)) 41 2 = c2 41 2 := (up_c (nn rfl))
        exact ih.1 (up c2 63 v2 (-1)) (v2 + 1) hI_5 (fun a j hm => (up_b (Decidable.or_iff_not_imp_left.mpr (fun h1 h2 => hm (Or.inr (Or.inr (Or.inr (Or.inr (Or.inr (Or.inr (Or.inr (Or.inr (Or.inr (Or.inr (Or.inl (Decidable.not_not.mp h1))))))))))))))).trans (hF a j (fun q => q.elim (fun h => hm (Or.inl h)) (fun q => q.elim (fun h => hm (Or.inr (Or.inl h))) (fun q => q.elim (fun h => hm (Or.inr (Or.inr (Or.inl h)))) (fun q => q.elim (fun h => hm (Or.inr (Or.inr (Or.inr (Or.inl h))))) (fun q => q.elim (fun h => hm (Or.inr (Or.inr (Or.inr (Or.inr (Or.inl h)))))) (fun q => q.elim (fun h => hm (Or.inr (Or.inr (Or.inr (Or.inr (Or.inr (Or.inl h))))))) (fun q => q.elim (fun h => hm (Or.inr (Or.inr (Or.inr (Or.inr (Or.inr (Or.inr (Or.inl h)))))))) (fun q => q.elim (fun h => hm (Or.inr (Or.inr (Or.inr (Or.inr (Or.inr (Or.inr (Or.inr (Or.inl h))))))))) (fun q => q.elim (fun h => hm (Or.inr (Or.inr (Or.inr (Or.inr (Or.inr (Or.inr (Or.inr (Or.inr (Or.inl h)))))))))) (fun q => q.elim (fun h => hm (Or.inr (Or.inr (Or.inr (Or.inr (Or.inr (Or.inr (Or.inr (Or.inr (Or.inr (Or.inl h))))))))))) (fun q => q.elim (fun h => hm (Or.inr (Or.inr (Or.inr (Or.inr (Or.inr (Or.inr (Or.inr (Or.inr (Or.inr (Or.inr (Or.inl h)))))))))))) (fun h => hm (Or.inr (Or.inr (Or.inr (Or.inr (Or.inr (Or.inr (Or.inr (Or.inr (Or.inr (Or.inr (Or.inr h))))))))))))))))))))))))) ⟨by first | exact rgp_l hv2.1 (by decide) | omega, by first | exact q_121241f94 h_3 | omega⟩ ⟨by omega, by omega, by omega, by omega⟩ (by omega)
    · skip
      intro c2 v2 hI2 hF hv2 hx0 hm9
      have h_7 := ir_41_2 hI
      have h_8 := ir_41_2 hI2
      have h_9 := ir_41_4 hI2
      refine q_aload_n rfl rfl (v_cv rfl rfl rfl rfl (Nat.le_of_ble_eq_true rfl) ⟨⟨rfl, rfl⟩, Nat.le_of_ble_eq_true rfl, rfl⟩ (Nat.le_of_ble_eq_true rfl) (Nat.le_of_ble_eq_true rfl) (q_aload_n rfl rfl ?_))
      have h_10 := ir_41_5 hI2
      refine v_gi (z := 5) (v := c2 41 5) rfl rfl rfl (Nat.le_of_ble_eq_true rfl) rfl rfl rfl (q_iconst rfl ?_)
      by_cases h_11 : c2 41 5 ≠ (-1)
      · refine v_ic_ne_t (t := 12) rfl rfl ⟨h_11, ⟨(Int.le_trans (by decide) h_10.1), (Int.le_trans h_10.2 (by decide))⟩, by decide, by decide⟩ (q_iconst rfl (v_zret rfl rfl (by decide) (bk_inl (v_if_eq_t (t := 134) rfl rfl (by decide) (q_aload_n rfl rfl (q_iload_n rfl rfl (v_cv rfl rfl rfl rfl (Nat.le_of_ble_eq_true rfl) ⟨⟨rfl, rfl⟩, Nat.le_of_ble_eq_true rfl, rfl⟩ (Nat.le_of_ble_eq_true rfl) (Nat.le_of_ble_eq_true rfl) (s_164 (a1 := v2) hI2 (show (-2147483648) ≤ v2 ∧ v2 ≤ 2147483647 from hv2) (fun c_12 y_15 hI_13 hF_14 hy_15 => ?_)))))))))
        refine bk_inl (q_istore_n rfl (Nat.le_of_ble_eq_true rfl) (q_aload_n rfl rfl ?_))
        have kn_16 : Hid (c_12 41 5 = c2 41 5) := hF_14 41 5 (fun h => absurd h.2 (ni rfl))
        refine v_gi (z := 5) (v := c2 41 5) rfl rfl rfl (Nat.le_of_ble_eq_true rfl) rfl rfl (hid kn_16) (q_iconst rfl (v_ic_eq_f (t := 150) rfl rfl ⟨by first | exact q_bd023a79f h_10 h_11 | omega, ⟨(Int.le_trans (by decide) h_10.1), (Int.le_trans h_10.2 (by decide))⟩, by decide, by decide⟩ (q_iload_n rfl rfl (q_iret rfl rfl ?_))))
        have kn_17 : Hid (c_12 41 2 = c2 41 2) := hF_14 41 2 (fun h => absurd h.2 (ni rfl))
        have h_18 : c_12 41 2 = c2 41 2 := (hid kn_17)
        exact K c_12 y_15 hI_13 (fun a j hm => (hF_14 a j (fun h => hm (Or.inr (Or.inr (Or.inr (Or.inr (Or.inr (Or.inr (Or.inr (Or.inr (Or.inl h))))))))))).trans (hF a j (fun q => q.elim (fun h => hm (Or.inl h)) (fun q => q.elim (fun h => hm (Or.inr (Or.inl h))) (fun q => q.elim (fun h => hm (Or.inr (Or.inr (Or.inl h)))) (fun q => q.elim (fun h => hm (Or.inr (Or.inr (Or.inr (Or.inl h))))) (fun q => q.elim (fun h => hm (Or.inr (Or.inr (Or.inr (Or.inr (Or.inl h)))))) (fun q => q.elim (fun h => hm (Or.inr (Or.inr (Or.inr (Or.inr (Or.inr (Or.inl h))))))) (fun q => q.elim (fun h => hm (Or.inr (Or.inr (Or.inr (Or.inr (Or.inr (Or.inr (Or.inl h)))))))) (fun q => q.elim (fun h => hm (Or.inr (Or.inr (Or.inr (Or.inr (Or.inr (Or.inr (Or.inr (Or.inl h))))))))) (fun q => q.elim (fun h => hm (Or.inr (Or.inr (Or.inr (Or.inr (Or.inr (Or.inr (Or.inr (Or.inr (Or.inl h)))))))))) (fun q => q.elim (fun h => hm (Or.inr (Or.inr (Or.inr (Or.inr (Or.inr (Or.inr (Or.inr (Or.inr (Or.inr (Or.inl h))))))))))) (fun q => q.elim (fun h => hm (Or.inr (Or.inr (Or.inr (Or.inr (Or.inr (Or.inr (Or.inr (Or.inr (Or.inr (Or.inr (Or.inl h)))))))))))) (fun h => hm (Or.inr (Or.inr (Or.inr (Or.inr (Or.inr (Or.inr (Or.inr (Or.inr (Or.inr (Or.inr (Or.inr h))))))))))))))))))))))))) hy_15 (Or.inl ⟨by first | (clear ha1 hv2 h_7 h_8 h_9 h_10 h_11; omega) | omega, by first | (clear ha1 hv2 h_7 h_8 h_9 h_10 h_11; omega) | omega, by first | (clear ha1 hv2 h_7 h_8 h_9 h_10 h_11; omega) | omega, by first | (clear ha1 hv2 h_7 h_8 h_9 h_10 h_11; omega) | omega⟩)
      · refine v_ic_ne_f (t := 12) rfl rfl (Decidable.not_not.mp h_11) (q_iconst rfl (q_goto (t := 13) rfl rfl (v_zret rfl rfl (by decide) (bk_inl (v_if_eq_f (t := 134) rfl rfl (by decide) (q_aload_n rfl rfl ?_))))))
        have h_19 := ir_41_3 hI2
        refine v_cv rfl rfl rfl rfl (Nat.le_of_ble_eq_true rfl) ⟨⟨rfl, rfl⟩, Nat.le_of_ble_eq_true rfl, rfl⟩ (Nat.le_of_ble_eq_true rfl) (Nat.le_of_ble_eq_true rfl) (s_162 hI2 (fun c_20 y_23 hI_21 hF_22 hy_23 h_24 h_25 h_26 => (bk_inl ?_)))
        have h_27 := ir_41_4 hI_21
        by_cases h_28 : y_23 = 0
        · refine v_if_eq_t (t := 134) rfl rfl h_28 (q_aload_n rfl rfl (q_iload_n rfl rfl (v_cv rfl rfl rfl rfl (Nat.le_of_ble_eq_true rfl) ⟨⟨rfl, rfl⟩, Nat.le_of_ble_eq_true rfl, rfl⟩ (Nat.le_of_ble_eq_true rfl) (Nat.le_of_ble_eq_true rfl) (s_164 (a1 := v2) hI_21 (show (-2147483648) ≤ v2 ∧ v2 ≤ 2147483647 from hv2) (fun c_29 y_32 hI_30 hF_31 hy_32 => (bk_inl (q_istore_n rfl (Nat.le_of_ble_eq_true rfl) (q_aload_n rfl rfl ?_))))))))
          have kn_33 : Hid (c_20 41 5 = c2 41 5) := hF_22 41 5 (fun h => absurd h.2 (ni rfl))
          have kn_34 : Hid (c_29 41 5 = c2 41 5) := (hF_31 41 5 (fun h => absurd h.2 (ni rfl))).trans (hid kn_33)
          refine v_gi (z := 5) (v := c2 41 5) rfl rfl rfl (Nat.le_of_ble_eq_true rfl) rfl rfl (hid kn_34) (q_iconst rfl (v_ic_eq_t (t := 150) rfl rfl (by first | exact q_65c5ff97d h_10 h_11 | (clear ha1 hv2 hx0 h_7 h_8 h_9 h_19 h_27 h_24 h_28 h_25 h_26; omega) | omega) (q_aload_n rfl rfl (q_iload_n rfl rfl (v_pi (z := 48) rfl rfl rfl (Nat.le_of_ble_eq_true rfl) rfl rfl rfl (by decide) (q_aload_n rfl rfl (q_aload_n rfl rfl ?_)))))))
          refine v_gr (t := 63) rfl rfl rfl (Nat.le_of_ble_eq_true rfl) rfl (q_aload_n rfl rfl (v_gr (t := 64) rfl rfl rfl (Nat.le_of_ble_eq_true rfl) rfl (q_iconst rfl (v_cv rfl rfl rfl rfl (Nat.le_of_ble_eq_true rfl) ⟨⟨rfl, rfl⟩, Nat.le_of_ble_eq_true rfl, rfl⟩ (Nat.le_of_ble_eq_true rfl) (Nat.le_of_ble_eq_true rfl) (s_148 (f := 63) (t := 64) (nf := 4) (nt := 4) (n := 4) rfl rfl (by decide) (by decide) (by decide) (by decide) (by decide) (by omega) (bk_inl (q_iload_n rfl rfl (q_iret rfl rfl ?_))))))))
          have hI_35 := iw_41_48 (v := v2) hI_30 ⟨hv2.1, hv2.2⟩
          have hI_36 := cp_63_64 hI_35
          have kn_37 : Hid (c_20 41 2 = c2 41 2) := hF_22 41 2 (fun h => absurd h.2 (ni rfl))
          have kn_38 : Hid (c_29 41 2 = c2 41 2) := (hF_31 41 2 (fun h => absurd h.2 (ni rfl))).trans (hid kn_37)
          have h_39 : (upc (up c_29 41 48 v2) 63 0 64 0 4) 41 2 = c2 41 2 := ((upc_c (by omega)).trans ((up_n (by decide)).trans (hid kn_38)))
          exact K (upc (up c_29 41 48 v2) 63 0 64 0 4) y_32 hI_36 (fun a j hm => (upc_c (fun h => hm (Or.inr (Or.inr (Or.inr (Or.inr (Or.inr (Or.inr (Or.inr (Or.inr (Or.inr (Or.inr (Or.inr h))))))))))))).trans ((up_b (Decidable.or_iff_not_imp_left.mpr (fun h1 h2 => hm (Or.inr (Or.inr (Or.inr (Or.inr (Or.inr (Or.inr (Or.inr (Or.inr (Or.inr (Or.inl ⟨Decidable.not_not.mp h1, h2⟩))))))))))))).trans ((hF_31 a j (fun h => hm (Or.inr (Or.inr (Or.inr (Or.inr (Or.inr (Or.inr (Or.inr (Or.inr (Or.inl h))))))))))).trans ((hF_22 a j (fun h => hm (Or.inr (Or.inr (Or.inr (Or.inr (Or.inl h))))))).trans (hF a j (fun q => q.elim (fun h => hm (Or.inl h)) (fun q => q.elim (fun h => hm (Or.inr (Or.inl h))) (fun q => q.elim (fun h => hm (Or.inr (Or.inr (Or.inl h)))) (fun q => q.elim (fun h => hm (Or.inr (Or.inr (Or.inr (Or.inl h))))) (fun q => q.elim (fun h => hm (Or.inr (Or.inr (Or.inr (Or.inr (Or.inl h)))))) (fun q => q.elim (fun h => hm (Or.inr (Or.inr (Or.inr (Or.inr (Or.inr (Or.inl h))))))) (fun q => q.elim (fun h => hm (Or.inr (Or.inr (Or.inr (Or.inr (Or.inr (Or.inr (Or.inl h)))))))) (fun q => q.elim (fun h => hm (Or.inr (Or.inr (Or.inr (Or.inr (Or.inr (Or.inr (Or.inr (Or.inl h))))))))) (fun q => q.elim (fun h => hm (Or.inr (Or.inr (Or.inr (Or.inr (Or.inr (Or.inr (Or.inr (Or.inr (Or.inl h)))))))))) (fun q => q.elim (fun h => hm (Or.inr (Or.inr (Or.inr (Or.inr (Or.inr (Or.inr (Or.inr (Or.inr (Or.inr (Or.inl h))))))))))) (fun q => q.elim (fun h => hm (Or.inr (Or.inr (Or.inr (Or.inr (Or.inr (Or.inr (Or.inr (Or.inr (Or.inr (Or.inr (Or.inl h)))))))))))) (fun h => hm (Or.inr (Or.inr (Or.inr (Or.inr (Or.inr (Or.inr (Or.inr (Or.inr (Or.inr (Or.inr (Or.inr h)))))))))))))))))))))))))))) hy_32 (Or.inl ⟨by first | (clear ha1 hv2 h_7 h_8 h_9 h_10 h_11 h_19 h_27 h_24 h_28 h_25 h_26; omega) | omega, by first | (clear ha1 hv2 h_7 h_8 h_9 h_10 h_11 h_19 h_27 h_24 h_28 h_25 h_26; omega) | omega, by first | (clear ha1 hv2 h_7 h_8 h_9 h_10 h_11 h_19 h_27 h_24 h_28 h_25 h_26; omega) | omega, by first | (clear ha1 hv2 h_7 h_8 h_9 h_10 h_11 h_19 h_27 h_24 h_28 h_25 h_26; omega) | omega⟩)
        · refine v_if_eq_f (t := 134) rfl rfl ⟨h_28, ⟨(Int.le_trans (by decide) hy_23.1), (Int.le_trans hy_23.2 (by decide))⟩, by decide, by decide⟩ (q_aload_n rfl rfl (v_gi (z := 4) (v := c_20 41 4) rfl rfl rfl (Nat.le_of_ble_eq_true rfl) rfl rfl rfl (q_istore_n rfl (Nat.le_of_ble_eq_true rfl) (q_aload_n rfl rfl (q_iconst rfl (q_iconst rfl ?_))))))
          have kn_40 : Hid (c_20 41 3 = c2 41 3) := hF_22 41 3 (fun h => absurd h.2 (ni rfl))
          have h_41 : c_20 41 3 = c2 41 3 := (hid kn_40)
          have kn_42 : Hid (c_20 41 5 = c2 41 5) := hF_22 41 5 (fun h => absurd h.2 (ni rfl))
          have h_43 : c_20 41 5 = c2 41 5 := (hid kn_42)
          refine v_cv rfl rfl rfl rfl (Nat.le_of_ble_eq_true rfl) ⟨⟨rfl, rfl⟩, Nat.le_of_ble_eq_true rfl, rfl⟩ (Nat.le_of_ble_eq_true rfl) (Nat.le_of_ble_eq_true rfl) (s_160 (a1 := 0) (a2 := 3) hI_21 (show 0 ≤ 0 ∧ 0 ≤ 1 from ⟨by decide, by decide⟩) (show (-1) ≤ 3 ∧ 3 ≤ 9999 from ⟨by decide, by decide⟩) (fun c_44 y_47 hI_45 hF_46 hy_47 h_48 h_49 h_50 h_51 h_52 => (bk_inl ?_)))
          have h_53 := ir_41_4 hI_45
          have h_54 := ir_41_5 hI_45
          refine q_istore rfl (Nat.le_of_ble_eq_true rfl) (q_aload_n rfl rfl (v_cv rfl rfl rfl rfl (Nat.le_of_ble_eq_true rfl) ⟨⟨rfl, rfl⟩, Nat.le_of_ble_eq_true rfl, rfl⟩ (Nat.le_of_ble_eq_true rfl) (Nat.le_of_ble_eq_true rfl) (q_aload_n rfl rfl (v_gi (z := 5) (v := c_44 41 5) rfl rfl rfl (Nat.le_of_ble_eq_true rfl) rfl rfl rfl (q_iconst rfl ?_)))))
          by_cases h_55 : c_44 41 5 ≠ (-1)
          · refine v_ic_ne_t (t := 12) rfl rfl ⟨h_55, ⟨(Int.le_trans (by decide) h_54.1), (Int.le_trans h_54.2 (by decide))⟩, by decide, by decide⟩ (q_iconst rfl (v_zret rfl rfl (by decide) (bk_inl (v_if_eq_t (t := 93) rfl rfl (by decide) (q_aload_n rfl rfl (q_iconst rfl (v_sip rfl (by decide) ?_)))))))
            have kn_56 : Hid (c_44 41 3 = c2 41 3) := (hF_46 41 3 (fun q => q.elim (fun h => absurd h.2 (ni rfl)) (fun q => q.elim (fun h => absurd h.2 (ni rfl)) (fun h => absurd h.2 (ni rfl))))).trans (hid kn_40)
            have h_57 : c_44 41 3 = c2 41 3 := (hid kn_56)
            refine v_cv rfl rfl rfl rfl (Nat.le_of_ble_eq_true rfl) ⟨⟨rfl, rfl⟩, Nat.le_of_ble_eq_true rfl, rfl⟩ (Nat.le_of_ble_eq_true rfl) (Nat.le_of_ble_eq_true rfl) (s_160 (a1 := 0) (a2 := 9999) hI_45 (show 0 ≤ 0 ∧ 0 ≤ 1 from ⟨by decide, by decide⟩) (show (-1) ≤ 9999 ∧ 9999 ≤ 9999 from ⟨by decide, by decide⟩) (fun c_58 y_61 hI_59 hF_60 hy_61 h_62 h_63 h_64 h_65 h_66 => (bk_inl ?_)))
            have h_67 := ir_41_4 hI_59
            have h_68 := ir_41_5 hI_59
            refine q_istore rfl (Nat.le_of_ble_eq_true rfl) (q_aload_n rfl rfl (v_bip rfl (by decide) ?_))
            have kn_69 : Hid (c_58 41 3 = c2 41 3) := (hF_60 41 3 (fun q => q.elim (fun h => absurd h.2 (ni rfl)) (fun q => q.elim (fun h => absurd h.2 (ni rfl)) (fun h => absurd h.2 (ni rfl))))).trans (hid kn_56)
            have h_70 : c_58 41 3 = c2 41 3 := (hid kn_69)
            refine v_cv rfl rfl rfl rfl (Nat.le_of_ble_eq_true rfl) ⟨⟨rfl, rfl⟩, Nat.le_of_ble_eq_true rfl, rfl⟩ (Nat.le_of_ble_eq_true rfl) (Nat.le_of_ble_eq_true rfl) (s_161 (a1 := 59) hI_59 (show 1 ≤ 59 ∧ 59 ≤ 255 from ⟨by decide, by decide⟩) (fun c_71 hI_72 hF_73 h_74 h_75 h_76 h_77 => (bk_inl ?_)))
            have h_78 := ir_41_4 hI_72
            have h_79 := ir_41_5 hI_72
            refine q_aload_n rfl rfl (v_cv rfl rfl rfl rfl (Nat.le_of_ble_eq_true rfl) ⟨⟨rfl, rfl⟩, Nat.le_of_ble_eq_true rfl, rfl⟩ (Nat.le_of_ble_eq_true rfl) (Nat.le_of_ble_eq_true rfl) (q_aload_n rfl rfl (v_gi (z := 5) (v := c_71 41 5) rfl rfl rfl (Nat.le_of_ble_eq_true rfl) rfl rfl rfl (q_iconst rfl (v_ic_ne_t (t := 12) rfl rfl ⟨by first | (clear ha1 hv2 hx0 h_7 h_8 h_9 h_10 h_11 h_19 h_27 h_24 h_53 h_48 h_54 h_67 h_62 h_68 h_78 h_74 h_79 h_25 h_26 h_28 h_49 h_50 h_51 h_52 h_63 h_64 h_66 h_75 h_77; omega) | omega, ⟨(Int.le_trans (by decide) h_79.1), (Int.le_trans h_79.2 (by decide))⟩, by decide, by decide⟩ (q_iconst rfl (v_zret rfl rfl (by decide) ?_)))))))
            refine bk_inl (v_if_ne_f (t := 119) rfl rfl (by decide) (q_goto (t := 134) rfl rfl (q_aload_n rfl rfl (q_iload_n rfl rfl (v_cv rfl rfl rfl rfl (Nat.le_of_ble_eq_true rfl) ⟨⟨rfl, rfl⟩, Nat.le_of_ble_eq_true rfl, rfl⟩ (Nat.le_of_ble_eq_true rfl) (Nat.le_of_ble_eq_true rfl) (s_164 (a1 := v2) hI_72 (show (-2147483648) ≤ v2 ∧ v2 ≤ 2147483647 from hv2) (fun c_80 y_83 hI_81 hF_82 hy_83 => (bk_inl (q_istore_n rfl (Nat.le_of_ble_eq_true rfl) ?_)))))))))
            refine q_aload_n rfl rfl ?_
            have kn_84 : Hid (c_80 41 5 = c_71 41 5) := hF_82 41 5 (fun h => absurd h.2 (ni rfl))
            refine v_gi (z := 5) (v := c_71 41 5) rfl rfl rfl (Nat.le_of_ble_eq_true rfl) rfl rfl (hid kn_84) (q_iconst rfl (v_ic_eq_f (t := 150) rfl rfl ⟨by first | (clear ha1 hv2 hx0 h_7 h_8 h_9 h_10 h_11 h_19 h_27 h_24 h_53 h_48 h_54 h_67 h_62 h_68 h_78 h_74 h_79 h_25 h_26 h_28 h_49 h_50 h_51 h_52 h_63 h_64 h_66 h_75 h_77; omega) | omega, ⟨(Int.le_trans (by decide) h_79.1), (Int.le_trans h_79.2 (by decide))⟩, by decide, by decide⟩ (q_iload_n rfl rfl (q_iret rfl rfl ?_))))
            have kn_85 : Hid (c_20 41 2 = c2 41 2) := hF_22 41 2 (fun h => absurd h.2 (ni rfl))
            have kn_86 : Hid (c_44 41 2 = c2 41 2) := (hF_46 41 2 (fun q => q.elim (fun h => absurd h.2 (ni rfl)) (fun q => q.elim (fun h => absurd h.2 (ni rfl)) (fun h => absurd h.2 (ni rfl))))).trans (hid kn_85)
            have kn_87 : Hid (c_58 41 2 = c2 41 2) := (hF_60 41 2 (fun q => q.elim (fun h => absurd h.2 (ni rfl)) (fun q => q.elim (fun h => absurd h.2 (ni rfl)) (fun h => absurd h.2 (ni rfl))))).trans (hid kn_86)
            have kn_88 : Hid (c_71 41 2 = c2 41 2) := (hF_73 41 2 (fun q => q.elim (fun h => absurd h.2 (ni rfl)) (fun q => q.elim (fun h => absurd h.2 (ni rfl)) (fun h => absurd h.2 (ni rfl))))).trans (hid kn_87)
            have kn_89 : Hid (c_80 41 2 = c2 41 2) := (hF_82 41 2 (fun h => absurd h.2 (ni rfl))).trans (hid kn_88)
            have h_90 : c_80 41 2 = c2 41 2 := (hid kn_89)
            exact K c_80 y_83 hI_81 (fun a j hm => (hF_82 a j (fun h => hm (Or.inr (Or.inr (Or.inr (Or.inr (Or.inr (Or.inr (Or.inr (Or.inr (Or.inl h))))))))))).trans ((hF_73 a j (fun q => q.elim (fun h => hm (Or.inr (Or.inr (Or.inr (Or.inr (Or.inl h)))))) (fun q => q.elim (fun h => hm (Or.inr (Or.inr (Or.inr (Or.inr (Or.inr (Or.inl h))))))) (fun h => hm (Or.inr (Or.inr (Or.inr (Or.inr (Or.inr (Or.inr (Or.inl h))))))))))).trans ((hF_60 a j (fun q => q.elim (fun h => hm (Or.inr (Or.inr (Or.inr (Or.inr (Or.inl h)))))) (fun q => q.elim (fun h => hm (Or.inr (Or.inr (Or.inr (Or.inr (Or.inr (Or.inl h))))))) (fun h => hm (Or.inr (Or.inr (Or.inr (Or.inr (Or.inr (Or.inr (Or.inl h))))))))))).trans ((hF_46 a j (fun q => q.elim (fun h => hm (Or.inr (Or.inr (Or.inr (Or.inr (Or.inl h)))))) (fun q => q.elim (fun h => hm (Or.inr (Or.inr (Or.inr (Or.inr (Or.inr (Or.inl h))))))) (fun h => hm (Or.inr (Or.inr (Or.inr (Or.inr (Or.inr (Or.inr (Or.inl h))))))))))).trans ((hF_22 a j (fun h => hm (Or.inr (Or.inr (Or.inr (Or.inr (Or.inl h))))))).trans (hF a j (fun q => q.elim (fun h => hm (Or.inl h)) (fun q => q.elim (fun h => hm (Or.inr (Or.inl h))) (fun q => q.elim (fun h => hm (Or.inr (Or.inr (Or.inl h)))) (fun q => q.elim (fun h => hm (Or.inr (Or.inr (Or.inr (Or.inl h))))) (fun q => q.elim (fun h => hm (Or.inr (Or.inr (Or.inr (Or.inr (Or.inl h)))))) (fun q => q.elim (fun h => hm (Or.inr (Or.inr (Or.inr (Or.inr (Or.inr (Or.inl h))))))) (fun q => q.elim (fun h => hm (Or.inr (Or.inr (Or.inr (Or.inr (Or.inr (Or.inr (Or.inl h)))))))) (fun q => q.elim (fun h => hm (Or.inr (Or.inr (Or.inr (Or.inr (Or.inr (Or.inr (Or.inr (Or.inl h))))))))) (fun q => q.elim (fun h => hm (Or.inr (Or.inr (Or.inr (Or.inr (Or.inr (Or.inr (Or.inr (Or.inr (Or.inl h)))))))))) (fun q => q.elim (fun h => hm (Or.inr (Or.inr (Or.inr (Or.inr (Or.inr (Or.inr (Or.inr (Or.inr (Or.inr (Or.inl h))))))))))) (fun q => q.elim (fun h => hm (Or.inr (Or.inr (Or.inr (Or.inr (Or.inr (Or.inr (Or.inr (Or.inr (Or.inr (Or.inr (Or.inl h)))))))))))) (fun h => hm (Or.inr (Or.inr (Or.inr (Or.inr (Or.inr (Or.inr (Or.inr (Or.inr (Or.inr (Or.inr (Or.inr h))))))))))))))))))))))))))))) hy_83 (Or.inl ⟨by first | (clear ha1 hv2 h_7 h_8 h_9 h_10 h_11 h_19 h_27 h_24 h_53 h_48 h_54 h_67 h_62 h_68 h_78 h_74 h_79 h_25 h_26 h_28 h_49 h_50 h_51 h_52 h_55 h_63 h_64 h_65 h_66 h_75 h_76 h_77; omega) | omega, by first | (clear ha1 hv2 h_7 h_8 h_9 h_10 h_11 h_19 h_27 h_24 h_53 h_48 h_54 h_67 h_62 h_68 h_78 h_74 h_79 h_25 h_26 h_28 h_49 h_50 h_51 h_52 h_55 h_63 h_64 h_65 h_66 h_75 h_76 h_77; omega) | omega, by first | (clear ha1 hv2 h_7 h_8 h_9 h_10 h_11 h_19 h_27 h_24 h_53 h_48 h_54 h_67 h_62 h_68 h_78 h_74 h_79 h_25 h_26 h_28 h_49 h_50 h_51 h_52 h_55 h_63 h_64 h_65 h_66 h_75 h_76 h_77; omega) | omega, by first | (clear ha1 hv2 h_7 h_8 h_9 h_10 h_11 h_19 h_27 h_24 h_53 h_48 h_54 h_67 h_62 h_68 h_78 h_74 h_79 h_25 h_26 h_28 h_49 h_50 h_51 h_52 h_55 h_63 h_64 h_65 h_66 h_75 h_76 h_77; omega) | omega⟩)
          · refine v_ic_ne_f (t := 12) rfl rfl (Decidable.not_not.mp h_55) (q_iconst rfl (q_goto (t := 13) rfl rfl (v_zret rfl rfl (by decide) (bk_inl (v_if_eq_f (t := 93) rfl rfl (by decide) (q_aload_n rfl rfl (v_gr (t := 63) rfl rfl rfl (Nat.le_of_ble_eq_true rfl) rfl ?_)))))))
            refine q_iload rfl rfl ?_
            have h_91 := ir_63 hI2 y_47
            have kn_92 : Hid (c_20 63 y_47 = c2 63 y_47) := hF_22 63 y_47 (fun h => absurd h.1 (nn rfl))
            have kn_93 : Hid (c_44 63 y_47 = c2 63 y_47) := (hF_46 63 y_47 (fun q => q.elim (fun h => absurd h.1 (nn rfl)) (fun q => q.elim (fun h => absurd h.1 (nn rfl)) (fun h => absurd h.1 (nn rfl))))).trans (hid kn_92)
            refine v_ia (v := c2 63 y_47) rfl rfl (by decide) (by decide) ⟨hy_47.1, by first | (clear ha1 hv2 hx0 h_7 h_8 h_9 h_10 h_11 h_19 h_27 h_24 h_53 h_48 h_54 h_55 h_91 h_25 h_26 h_28 h_49 h_51 h_52; omega) | omega⟩ (hid kn_93) (q_iconst rfl ?_)
            by_cases h_94 : c2 63 y_47 = (-1)
            · refine v_ic_eq_t (t := 93) rfl rfl h_94 (q_aload_n rfl rfl (q_iconst rfl (v_sip rfl (by decide) ?_)))
              have kn_95 : Hid (c_44 41 3 = c2 41 3) := (hF_46 41 3 (fun q => q.elim (fun h => absurd h.2 (ni rfl)) (fun q => q.elim (fun h => absurd h.2 (ni rfl)) (fun h => absurd h.2 (ni rfl))))).trans (hid kn_40)
              have h_96 : c_44 41 3 = c2 41 3 := (hid kn_95)
              refine v_cv rfl rfl rfl rfl (Nat.le_of_ble_eq_true rfl) ⟨⟨rfl, rfl⟩, Nat.le_of_ble_eq_true rfl, rfl⟩ (Nat.le_of_ble_eq_true rfl) (Nat.le_of_ble_eq_true rfl) (s_160 (a1 := 0) (a2 := 9999) hI_45 (show 0 ≤ 0 ∧ 0 ≤ 1 from ⟨by decide, by decide⟩) (show (-1) ≤ 9999 ∧ 9999 ≤ 9999 from ⟨by decide, by decide⟩) (fun c_97 y_100 hI_98 hF_99 hy_100 h_101 h_102 h_103 h_104 h_105 => (bk_inl ?_)))
              have h_106 := ir_41_4 hI_98
              have h_107 := ir_41_5 hI_98
              refine q_istore rfl (Nat.le_of_ble_eq_true rfl) (q_aload_n rfl rfl (v_bip rfl (by decide) ?_))
              have kn_108 : Hid (c_97 41 3 = c2 41 3) := (hF_99 41 3 (fun q => q.elim (fun h => absurd h.2 (ni rfl)) (fun q => q.elim (fun h => absurd h.2 (ni rfl)) (fun h => absurd h.2 (ni rfl))))).trans (hid kn_95)
              have h_109 : c_97 41 3 = c2 41 3 := (hid kn_108)
              refine v_cv rfl rfl rfl rfl (Nat.le_of_ble_eq_true rfl) ⟨⟨rfl, rfl⟩, Nat.le_of_ble_eq_true rfl, rfl⟩ (Nat.le_of_ble_eq_true rfl) (Nat.le_of_ble_eq_true rfl) (s_161 (a1 := 59) hI_98 (show 1 ≤ 59 ∧ 59 ≤ 255 from ⟨by decide, by decide⟩) (fun c_110 hI_111 hF_112 h_113 h_114 h_115 h_116 => (bk_inl ?_)))
              have h_117 := ir_41_4 hI_111
              have h_118 := ir_41_5 hI_111
              refine q_aload_n rfl rfl (v_cv rfl rfl rfl rfl (Nat.le_of_ble_eq_true rfl) ⟨⟨rfl, rfl⟩, Nat.le_of_ble_eq_true rfl, rfl⟩ (Nat.le_of_ble_eq_true rfl) (Nat.le_of_ble_eq_true rfl) (q_aload_n rfl rfl (v_gi (z := 5) (v := c_110 41 5) rfl rfl rfl (Nat.le_of_ble_eq_true rfl) rfl rfl rfl (q_iconst rfl ?_))))
              by_cases h_119 : c_110 41 5 ≠ (-1)
              · refine v_ic_ne_t (t := 12) rfl rfl ⟨h_119, ⟨(Int.le_trans (by decide) h_118.1), (Int.le_trans h_118.2 (by decide))⟩, by decide, by decide⟩ (q_iconst rfl (v_zret rfl rfl (by decide) (bk_inl (v_if_ne_f (t := 119) rfl rfl (by decide) (q_goto (t := 134) rfl rfl (q_aload_n rfl rfl (q_iload_n rfl rfl ?_)))))))
                refine v_cv rfl rfl rfl rfl (Nat.le_of_ble_eq_true rfl) ⟨⟨rfl, rfl⟩, Nat.le_of_ble_eq_true rfl, rfl⟩ (Nat.le_of_ble_eq_true rfl) (Nat.le_of_ble_eq_true rfl) (s_164 (a1 := v2) hI_111 (show (-2147483648) ≤ v2 ∧ v2 ≤ 2147483647 from hv2) (fun c_120 y_123 hI_121 hF_122 hy_123 => (bk_inl (q_istore_n rfl (Nat.le_of_ble_eq_true rfl) (q_aload_n rfl rfl ?_)))))
                have kn_124 : Hid (c_120 41 5 = c_110 41 5) := hF_122 41 5 (fun h => absurd h.2 (ni rfl))
                refine v_gi (z := 5) (v := c_110 41 5) rfl rfl rfl (Nat.le_of_ble_eq_true rfl) rfl rfl (hid kn_124) (q_iconst rfl (v_ic_eq_f (t := 150) rfl rfl ⟨by first | exact q_bd023a79f h_118 h_119 | (clear ha1 hv2 hx0 h_7 h_8 h_9 h_10 h_11 h_19 h_27 h_24 h_53 h_48 h_54 h_55 h_91 h_94 h_106 h_101 h_107 h_117 h_113 h_25 h_26 h_28 h_49 h_50 h_51 h_52 h_102 h_103 h_104 h_105 h_114 h_115 h_116; omega) | omega, ⟨(Int.le_trans (by decide) h_118.1), (Int.le_trans h_118.2 (by decide))⟩, by decide, by decide⟩ (q_iload_n rfl rfl (q_iret rfl rfl ?_))))
                have kn_125 : Hid (c_20 41 2 = c2 41 2) := hF_22 41 2 (fun h => absurd h.2 (ni rfl))
                have kn_126 : Hid (c_44 41 2 = c2 41 2) := (hF_46 41 2 (fun q => q.elim (fun h => absurd h.2 (ni rfl)) (fun q => q.elim (fun h => absurd h.2 (ni rfl)) (fun h => absurd h.2 (ni rfl))))).trans (hid kn_125)
                have kn_127 : Hid (c_97 41 2 = c2 41 2) := (hF_99 41 2 (fun q => q.elim (fun h => absurd h.2 (ni rfl)) (fun q => q.elim (fun h => absurd h.2 (ni rfl)) (fun h => absurd h.2 (ni rfl))))).trans (hid kn_126)
                have kn_128 : Hid (c_110 41 2 = c2 41 2) := (hF_112 41 2 (fun q => q.elim (fun h => absurd h.2 (ni rfl)) (fun q => q.elim (fun h => absurd h.2 (ni rfl)) (fun h => absurd h.2 (ni rfl))))).trans (hid kn_127)
                have kn_129 : Hid (c_120 41 2 = c2 41 2) := (hF_122 41 2 (fun h => absurd h.2 (ni rfl))).trans (hid kn_128)
                have h_130 : c_120 41 2 = c2 41 2 := (hid kn_129)
                exact K c_120 y_123 hI_121 (fun a j hm => (hF_122 a j (fun h => hm (Or.inr (Or.inr (Or.inr (Or.inr (Or.inr (Or.inr (Or.inr (Or.inr (Or.inl h))))))))))).trans ((hF_112 a j (fun q => q.elim (fun h => hm (Or.inr (Or.inr (Or.inr (Or.inr (Or.inl h)))))) (fun q => q.elim (fun h => hm (Or.inr (Or.inr (Or.inr (Or.inr (Or.inr (Or.inl h))))))) (fun h => hm (Or.inr (Or.inr (Or.inr (Or.inr (Or.inr (Or.inr (Or.inl h))))))))))).trans ((hF_99 a j (fun q => q.elim (fun h => hm (Or.inr (Or.inr (Or.inr (Or.inr (Or.inl h)))))) (fun q => q.elim (fun h => hm (Or.inr (Or.inr (Or.inr (Or.inr (Or.inr (Or.inl h))))))) (fun h => hm (Or.inr (Or.inr (Or.inr (Or.inr (Or.inr (Or.inr (Or.inl h))))))))))).trans ((hF_46 a j (fun q => q.elim (fun h => hm (Or.inr (Or.inr (Or.inr (Or.inr (Or.inl h)))))) (fun q => q.elim (fun h => hm (Or.inr (Or.inr (Or.inr (Or.inr (Or.inr (Or.inl h))))))) (fun h => hm (Or.inr (Or.inr (Or.inr (Or.inr (Or.inr (Or.inr (Or.inl h))))))))))).trans ((hF_22 a j (fun h => hm (Or.inr (Or.inr (Or.inr (Or.inr (Or.inl h))))))).trans (hF a j (fun q => q.elim (fun h => hm (Or.inl h)) (fun q => q.elim (fun h => hm (Or.inr (Or.inl h))) (fun q => q.elim (fun h => hm (Or.inr (Or.inr (Or.inl h)))) (fun q => q.elim (fun h => hm (Or.inr (Or.inr (Or.inr (Or.inl h))))) (fun q => q.elim (fun h => hm (Or.inr (Or.inr (Or.inr (Or.inr (Or.inl h)))))) (fun q => q.elim (fun h => hm (Or.inr (Or.inr (Or.inr (Or.inr (Or.inr (Or.inl h))))))) (fun q => q.elim (fun h => hm (Or.inr (Or.inr (Or.inr (Or.inr (Or.inr (Or.inr (Or.inl h)))))))) (fun q => q.elim (fun h => hm (Or.inr (Or.inr (Or.inr (Or.inr (Or.inr (Or.inr (Or.inr (Or.inl h))))))))) (fun q => q.elim (fun h => hm (Or.inr (Or.inr (Or.inr (Or.inr (Or.inr (Or.inr (Or.inr (Or.inr (Or.inl h)))))))))) (fun q => q.elim (fun h => hm (Or.inr (Or.inr (Or.inr (Or.inr (Or.inr (Or.inr (Or.inr (Or.inr (Or.inr (Or.inl h))))))))))) (fun q => q.elim (fun h => hm (Or.inr (Or.inr (Or.inr (Or.inr (Or.inr (Or.inr (Or.inr (Or.inr (Or.inr (Or.inr (Or.inl h)))))))))))) (fun h => hm (Or.inr (Or.inr (Or.inr (Or.inr (Or.inr (Or.inr (Or.inr (Or.inr (Or.inr (Or.inr (Or.inr h))))))))))))))))))))))))))))) hy_123 (Or.inl ⟨by first | (clear ha1 hv2 h_7 h_8 h_9 h_10 h_11 h_19 h_27 h_24 h_53 h_48 h_54 h_55 h_91 h_94 h_106 h_101 h_107 h_117 h_113 h_118 h_25 h_26 h_28 h_49 h_50 h_51 h_52 h_102 h_103 h_104 h_105 h_114 h_115 h_116 h_119; omega) | omega, by first | (clear ha1 hv2 h_7 h_8 h_9 h_10 h_11 h_19 h_27 h_24 h_53 h_48 h_54 h_55 h_91 h_94 h_106 h_101 h_107 h_117 h_113 h_118 h_25 h_26 h_28 h_49 h_50 h_51 h_52 h_102 h_103 h_104 h_105 h_114 h_115 h_116 h_119; omega) | omega, by first | (clear ha1 hv2 h_7 h_8 h_9 h_10 h_11 h_19 h_27 h_24 h_53 h_48 h_54 h_55 h_91 h_94 h_106 h_101 h_107 h_117 h_113 h_118 h_25 h_26 h_28 h_49 h_50 h_51 h_52 h_102 h_103 h_104 h_105 h_114 h_115 h_116 h_119; omega) | omega, by first | (clear ha1 hv2 h_7 h_8 h_9 h_10 h_11 h_19 h_27 h_24 h_53 h_48 h_54 h_55 h_91 h_94 h_106 h_101 h_107 h_117 h_113 h_118 h_25 h_26 h_28 h_49 h_50 h_51 h_52 h_102 h_103 h_104 h_105 h_114 h_115 h_116 h_119; omega) | omega⟩)
              · refine v_ic_ne_f (t := 12) rfl rfl (Decidable.not_not.mp h_119) (q_iconst rfl (q_goto (t := 13) rfl rfl (v_zret rfl rfl (by decide) (bk_inl (v_if_ne_t (t := 119) rfl rfl (by decide) (q_aload_n rfl rfl (v_gr (t := 63) rfl rfl rfl (Nat.le_of_ble_eq_true rfl) rfl ?_)))))))
                refine q_iload rfl rfl (q_iload rfl rfl (v_is rfl rfl (by decide) (by decide) ⟨hy_47.1, by first | (clear ha1 hv2 hx0 h_7 h_8 h_9 h_10 h_11 h_19 h_27 h_24 h_53 h_48 h_54 h_55 h_91 h_94 h_106 h_101 h_107 h_117 h_113 h_118 h_119 h_25 h_26 h_28 h_49 h_51 h_52 h_102 h_103 h_104 h_105 h_114 h_115 h_116; omega) | omega⟩ (v_iincx rfl rfl (by decide) (fun y_131 hy_131 => (q_goto (t := 42) rfl rfl ?_)))))
                have hI_132 := iw_63 (j := y_47) (v := y_100) hI_111 ⟨(Int.le_trans (by decide) hy_100.1), hy_100.2⟩
                refine Wp_ls [(0, .ref 41), (1, vi a1), (2, vi y_131)] (lsub_cons rfl (lsub_cons rfl (lsub_cons rfl lsub_nil))) ?_
                have kn_133 : Hid (c_20 41 2 = c2 41 2) := hF_22 41 2 (fun h => absurd h.2 (ni rfl))
                have kn_134 : Hid (c_44 41 2 = c2 41 2) := (hF_46 41 2 (fun q => q.elim (fun h => absurd h.2 (ni rfl)) (fun q => q.elim (fun h => absurd h.2 (ni rfl)) (fun h => absurd h.2 (ni rfl))))).trans (hid kn_133)
                have kn_135 : Hid (c_97 41 2 = c2 41 2) := (hF_99 41 2 (fun q => q.elim (fun h => absurd h.2 (ni rfl)) (fun q => q.elim (fun h => absurd h.2 (ni rfl)) (fun h => absurd h.2 (ni rfl))))).trans (hid kn_134)
                have kn_136 : Hid (c_110 41 2 = c2 41 2) := (hF_112 41 2 (fun q => q.elim (fun h => absurd h.2 (ni rfl)) (fun q => q.elim (fun h => absurd h.2 (ni rfl)) (fun h => absurd h.2 (ni rfl))))).trans (hid kn_135)
                have h_137 : (up c_110 63 y_47 y_100) 41 2 = c2 41 2 := ((up_c (nn rfl)).trans (hid kn_136))
                have h_138 : (up c_110 63 y_47 y_100) 41 4 = c_110 41 4 := (up_c (nn rfl))
                exact ih.2 (up c_110 63 y_47 y_100) y_131 hI_132 (fun a j hm => (up_b (Decidable.or_iff_not_imp_left.mpr (fun h1 h2 => hm (Or.inr (Or.inr (Or.inr (Or.inr (Or.inr (Or.inr (Or.inr (Or.inr (Or.inr (Or.inr (Or.inl (Decidable.not_not.mp h1))))))))))))))).trans ((hF_112 a j (fun q => q.elim (fun h => hm (Or.inr (Or.inr (Or.inr (Or.inr (Or.inl h)))))) (fun q => q.elim (fun h => hm (Or.inr (Or.inr (Or.inr (Or.inr (Or.inr (Or.inl h))))))) (fun h => hm (Or.inr (Or.inr (Or.inr (Or.inr (Or.inr (Or.inr (Or.inl h))))))))))).trans ((hF_99 a j (fun q => q.elim (fun h => hm (Or.inr (Or.inr (Or.inr (Or.inr (Or.inl h)))))) (fun q => q.elim (fun h => hm (Or.inr (Or.inr (Or.inr (Or.inr (Or.inr (Or.inl h))))))) (fun h => hm (Or.inr (Or.inr (Or.inr (Or.inr (Or.inr (Or.inr (Or.inl h))))))))))).trans ((hF_46 a j (fun q => q.elim (fun h => hm (Or.inr (Or.inr (Or.inr (Or.inr (Or.inl h)))))) (fun q => q.elim (fun h => hm (Or.inr (Or.inr (Or.inr (Or.inr (Or.inr (Or.inl h))))))) (fun h => hm (Or.inr (Or.inr (Or.inr (Or.inr (Or.inr (Or.inr (Or.inl h))))))))))).trans ((hF_22 a j (fun h => hm (Or.inr (Or.inr (Or.inr (Or.inr (Or.inl h))))))).trans (hF a j (fun q => q.elim (fun h => hm (Or.inl h)) (fun q => q.elim (fun h => hm (Or.inr (Or.inl h))) (fun q => q.elim (fun h => hm (Or.inr (Or.inr (Or.inl h)))) (fun q => q.elim (fun h => hm (Or.inr (Or.inr (Or.inr (Or.inl h))))) (fun q => q.elim (fun h => hm (Or.inr (Or.inr (Or.inr (Or.inr (Or.inl h)))))) (fun q => q.elim (fun h => hm (Or.inr (Or.inr (Or.inr (Or.inr (Or.inr (Or.inl h))))))) (fun q => q.elim (fun h => hm (Or.inr (Or.inr (Or.inr (Or.inr (Or.inr (Or.inr (Or.inl h)))))))) (fun q => q.elim (fun h => hm (Or.inr (Or.inr (Or.inr (Or.inr (Or.inr (Or.inr (Or.inr (Or.inl h))))))))) (fun q => q.elim (fun h => hm (Or.inr (Or.inr (Or.inr (Or.inr (Or.inr (Or.inr (Or.inr (Or.inr (Or.inl h)))))))))) (fun q => q.elim (fun h => hm (Or.inr (Or.inr (Or.inr (Or.inr (Or.inr (Or.inr (Or.inr (Or.inr (Or.inr (Or.inl h))))))))))) (fun q => q.elim (fun h => hm (Or.inr (Or.inr (Or.inr (Or.inr (Or.inr (Or.inr (Or.inr (Or.inr (Or.inr (Or.inr (Or.inl h)))))))))))) (fun h => hm (Or.inr (Or.inr (Or.inr (Or.inr (Or.inr (Or.inr (Or.inr (Or.inr (Or.inr (Or.inr (Or.inr h))))))))))))))))))))))))))))) hy_131 ⟨by first | (clear ha1 hv2 h_7 h_8 h_9 h_10 h_11 h_19 h_27 h_24 h_53 h_48 h_54 h_55 h_91 h_94 h_106 h_101 h_107 h_117 h_113 h_118 h_119 h_25 h_26 h_28 h_49 h_50 h_51 h_52 h_102 h_103 h_104 h_105 h_114 h_115 h_116; omega) | omega, by first | (clear ha1 hv2 h_7 h_8 h_9 h_10 h_11 h_19 h_27 h_24 h_53 h_48 h_54 h_55 h_91 h_94 h_106 h_101 h_107 h_117 h_113 h_118 h_119 h_25 h_26 h_28 h_49 h_50 h_51 h_52 h_102 h_103 h_104 h_105 h_114 h_115 h_116; omega) | omega, by first | (clear ha1 hv2 h_7 h_8 h_9 h_10 h_11 h_19 h_27 h_24 h_53 h_48 h_54 h_55 h_91 h_94 h_106 h_101 h_107 h_117 h_113 h_118 h_119 h_25 h_26 h_28 h_49 h_50 h_51 h_52 h_102 h_103 h_104 h_105 h_114 h_115 h_116; omega) | omega, by first | (clear ha1 hv2 h_7 h_8 h_9 h_10 h_11 h_19 h_27 h_24 h_53 h_48 h_54 h_55 h_91 h_94 h_106 h_101 h_107 h_117 h_113 h_118 h_119 h_25 h_26 h_28 h_49 h_50 h_51 h_52 h_102 h_103 h_104 h_105 h_114 h_115 h_116; omega) | omega⟩ (by omega)
            · refine v_ic_eq_f (t := 93) rfl rfl ⟨h_94, ⟨by first | exact q_87765d87e h_91 | (clear ha1 hv2 hx0 h_7 h_8 h_9 h_10 h_11 h_19 h_27 h_24 h_53 h_48 h_54 h_55 h_25 h_26 h_28 h_49 h_50 h_51 h_52; omega) | omega, by first | exact q_cf71bb2da h_91 | (clear ha1 hv2 hx0 h_7 h_8 h_9 h_10 h_11 h_19 h_27 h_24 h_53 h_48 h_54 h_55 h_25 h_26 h_28 h_49 h_50 h_51 h_52; omega) | omega⟩, by decide, by decide⟩ (q_aload_n rfl rfl (q_iconst rfl (q_iload_n rfl rfl (v_cv rfl rfl rfl rfl (Nat.le_of_ble_eq_true rfl) ⟨⟨rfl, rfl⟩, Nat.le_of_ble_eq_true rfl, rfl⟩ (Nat.le_of_ble_eq_true rfl) (Nat.le_of_ble_eq_true rfl) (s_153 (a1 := 2) (a2 := c_20 41 4) hI_45 (show 1 ≤ 2 ∧ 2 ≤ 3 from ⟨by decide, by decide⟩) (show 0 ≤ c_20 41 4 ∧ c_20 41 4 ≤ 605 from h_27) (fun c_139 hI_140 hF_141 h_142 => (bk_inl ?_)))))))
              have h_143 := ir_41_5 hI_140
              refine q_aload_n rfl rfl (q_iconst rfl (v_sip rfl (by decide) ?_))
              have kn_144 : Hid (c_139 41 4 = c_44 41 4) := hF_141 41 4 (fun q => q.elim (fun h => absurd h.2 (ni rfl)) (fun h => absurd h.2 (ni rfl)))
              have h_145 : c_139 41 4 = c_44 41 4 := (hid kn_144)
              have kn_146 : Hid (c_44 41 3 = c2 41 3) := (hF_46 41 3 (fun q => q.elim (fun h => absurd h.2 (ni rfl)) (fun q => q.elim (fun h => absurd h.2 (ni rfl)) (fun h => absurd h.2 (ni rfl))))).trans (hid kn_40)
              have kn_147 : Hid (c_139 41 3 = c2 41 3) := (hF_141 41 3 (fun q => q.elim (fun h => absurd h.2 (ni rfl)) (fun h => absurd h.2 (ni rfl)))).trans (hid kn_146)
              have h_148 : c_139 41 3 = c2 41 3 := (hid kn_147)
              refine v_cv rfl rfl rfl rfl (Nat.le_of_ble_eq_true rfl) ⟨⟨rfl, rfl⟩, Nat.le_of_ble_eq_true rfl, rfl⟩ (Nat.le_of_ble_eq_true rfl) (Nat.le_of_ble_eq_true rfl) (s_160 (a1 := 0) (a2 := 9999) hI_140 (show 0 ≤ 0 ∧ 0 ≤ 1 from ⟨by decide, by decide⟩) (show (-1) ≤ 9999 ∧ 9999 ≤ 9999 from ⟨by decide, by decide⟩) (fun c_149 y_152 hI_150 hF_151 hy_152 h_153 h_154 h_155 h_156 h_157 => (bk_inl ?_)))
              have h_158 := ir_41_4 hI_150
              have h_159 := ir_41_5 hI_150
              refine q_istore rfl (Nat.le_of_ble_eq_true rfl) (q_aload_n rfl rfl (v_bip rfl (by decide) ?_))
              have kn_160 : Hid (c_149 41 3 = c2 41 3) := (hF_151 41 3 (fun q => q.elim (fun h => absurd h.2 (ni rfl)) (fun q => q.elim (fun h => absurd h.2 (ni rfl)) (fun h => absurd h.2 (ni rfl))))).trans (hid kn_147)
              have h_161 : c_149 41 3 = c2 41 3 := (hid kn_160)
              refine v_cv rfl rfl rfl rfl (Nat.le_of_ble_eq_true rfl) ⟨⟨rfl, rfl⟩, Nat.le_of_ble_eq_true rfl, rfl⟩ (Nat.le_of_ble_eq_true rfl) (Nat.le_of_ble_eq_true rfl) (s_161 (a1 := 59) hI_150 (show 1 ≤ 59 ∧ 59 ≤ 255 from ⟨by decide, by decide⟩) (fun c_162 hI_163 hF_164 h_165 h_166 h_167 h_168 => (bk_inl ?_)))
              have h_169 := ir_41_4 hI_163
              have h_170 := ir_41_5 hI_163
              refine q_aload_n rfl rfl (v_cv rfl rfl rfl rfl (Nat.le_of_ble_eq_true rfl) ⟨⟨rfl, rfl⟩, Nat.le_of_ble_eq_true rfl, rfl⟩ (Nat.le_of_ble_eq_true rfl) (Nat.le_of_ble_eq_true rfl) (q_aload_n rfl rfl (v_gi (z := 5) (v := c_162 41 5) rfl rfl rfl (Nat.le_of_ble_eq_true rfl) rfl rfl rfl (q_iconst rfl (v_ic_ne_t (t := 12) rfl rfl ⟨by first | (clear ha1 hv2 hx0 h_7 h_8 h_9 h_10 h_11 h_19 h_27 h_24 h_53 h_48 h_54 h_55 h_91 h_143 h_158 h_153 h_159 h_169 h_165 h_170 h_25 h_26 h_28 h_49 h_50 h_51 h_52 h_94 h_154 h_155 h_157 h_166 h_168; omega) | omega, ⟨(Int.le_trans (by decide) h_170.1), (Int.le_trans h_170.2 (by decide))⟩, by decide, by decide⟩ (q_iconst rfl (v_zret rfl rfl (by decide) ?_)))))))
              refine bk_inl (v_if_ne_f (t := 119) rfl rfl (by decide) (q_goto (t := 134) rfl rfl (q_aload_n rfl rfl (q_iload_n rfl rfl (v_cv rfl rfl rfl rfl (Nat.le_of_ble_eq_true rfl) ⟨⟨rfl, rfl⟩, Nat.le_of_ble_eq_true rfl, rfl⟩ (Nat.le_of_ble_eq_true rfl) (Nat.le_of_ble_eq_true rfl) (s_164 (a1 := v2) hI_163 (show (-2147483648) ≤ v2 ∧ v2 ≤ 2147483647 from hv2) (fun c_171 y_174 hI_172 hF_173 hy_174 => (bk_inl (q_istore_n rfl (Nat.le_of_ble_eq_true rfl) ?_)))))))))
              refine q_aload_n rfl rfl ?_
              have kn_175 : Hid (c_171 41 5 = c_162 41 5) := hF_173 41 5 (fun h => absurd h.2 (ni rfl))
              refine v_gi (z := 5) (v := c_162 41 5) rfl rfl rfl (Nat.le_of_ble_eq_true rfl) rfl rfl (hid kn_175) (q_iconst rfl (v_ic_eq_f (t := 150) rfl rfl ⟨by first | (clear ha1 hv2 hx0 h_7 h_8 h_9 h_10 h_11 h_19 h_27 h_24 h_53 h_48 h_54 h_55 h_91 h_143 h_158 h_153 h_159 h_169 h_165 h_170 h_25 h_26 h_28 h_49 h_50 h_51 h_52 h_94 h_154 h_155 h_157 h_166 h_168; omega) | omega, ⟨(Int.le_trans (by decide) h_170.1), (Int.le_trans h_170.2 (by decide))⟩, by decide, by decide⟩ (q_iload_n rfl rfl (q_iret rfl rfl ?_))))
              have kn_176 : Hid (c_20 41 2 = c2 41 2) := hF_22 41 2 (fun h => absurd h.2 (ni rfl))
              have kn_177 : Hid (c_44 41 2 = c2 41 2) := (hF_46 41 2 (fun q => q.elim (fun h => absurd h.2 (ni rfl)) (fun q => q.elim (fun h => absurd h.2 (ni rfl)) (fun h => absurd h.2 (ni rfl))))).trans (hid kn_176)
              have kn_178 : Hid (c_139 41 2 = c2 41 2) := (hF_141 41 2 (fun q => q.elim (fun h => absurd h.2 (ni rfl)) (fun h => absurd h.2 (ni rfl)))).trans (hid kn_177)
              have kn_179 : Hid (c_149 41 2 = c2 41 2) := (hF_151 41 2 (fun q => q.elim (fun h => absurd h.2 (ni rfl)) (fun q => q.elim (fun h => absurd h.2 (ni rfl)) (fun h => absurd h.2 (ni rfl))))).trans (hid kn_178)
              have kn_180 : Hid (c_162 41 2 = c2 41 2) := (hF_164 41 2 (fun q => q.elim (fun h => absurd h.2 (ni rfl)) (fun q => q.elim (fun h => absurd h.2 (ni rfl)) (fun h => absurd h.2 (ni rfl))))).trans (hid kn_179)
              have kn_181 : Hid (c_171 41 2 = c2 41 2) := (hF_173 41 2 (fun h => absurd h.2 (ni rfl))).trans (hid kn_180)
              have h_182 : c_171 41 2 = c2 41 2 := (hid kn_181)
              exact K c_171 y_174 hI_172 (fun a j hm => (hF_173 a j (fun h => hm (Or.inr (Or.inr (Or.inr (Or.inr (Or.inr (Or.inr (Or.inr (Or.inr (Or.inl h))))))))))).trans ((hF_164 a j (fun q => q.elim (fun h => hm (Or.inr (Or.inr (Or.inr (Or.inr (Or.inl h)))))) (fun q => q.elim (fun h => hm (Or.inr (Or.inr (Or.inr (Or.inr (Or.inr (Or.inl h))))))) (fun h => hm (Or.inr (Or.inr (Or.inr (Or.inr (Or.inr (Or.inr (Or.inl h))))))))))).trans ((hF_151 a j (fun q => q.elim (fun h => hm (Or.inr (Or.inr (Or.inr (Or.inr (Or.inl h)))))) (fun q => q.elim (fun h => hm (Or.inr (Or.inr (Or.inr (Or.inr (Or.inr (Or.inl h))))))) (fun h => hm (Or.inr (Or.inr (Or.inr (Or.inr (Or.inr (Or.inr (Or.inl h))))))))))).trans ((hF_141 a j (fun q => q.elim (fun h => hm (Or.inr (Or.inr (Or.inr (Or.inr (Or.inr (Or.inl h))))))) (fun h => hm (Or.inr (Or.inr (Or.inr (Or.inr (Or.inr (Or.inr (Or.inl h)))))))))).trans ((hF_46 a j (fun q => q.elim (fun h => hm (Or.inr (Or.inr (Or.inr (Or.inr (Or.inl h)))))) (fun q => q.elim (fun h => hm (Or.inr (Or.inr (Or.inr (Or.inr (Or.inr (Or.inl h))))))) (fun h => hm (Or.inr (Or.inr (Or.inr (Or.inr (Or.inr (Or.inr (Or.inl h))))))))))).trans ((hF_22 a j (fun h => hm (Or.inr (Or.inr (Or.inr (Or.inr (Or.inl h))))))).trans (hF a j (fun q => q.elim (fun h => hm (Or.inl h)) (fun q => q.elim (fun h => hm (Or.inr (Or.inl h))) (fun q => q.elim (fun h => hm (Or.inr (Or.inr (Or.inl h)))) (fun q => q.elim (fun h => hm (Or.inr (Or.inr (Or.inr (Or.inl h))))) (fun q => q.elim (fun h => hm (Or.inr (Or.inr (Or.inr (Or.inr (Or.inl h)))))) (fun q => q.elim (fun h => hm (Or.inr (Or.inr (Or.inr (Or.inr (Or.inr (Or.inl h))))))) (fun q => q.elim (fun h => hm (Or.inr (Or.inr (Or.inr (Or.inr (Or.inr (Or.inr (Or.inl h)))))))) (fun q => q.elim (fun h => hm (Or.inr (Or.inr (Or.inr (Or.inr (Or.inr (Or.inr (Or.inr (Or.inl h))))))))) (fun q => q.elim (fun h => hm (Or.inr (Or.inr (Or.inr (Or.inr (Or.inr (Or.inr (Or.inr (Or.inr (Or.inl h)))))))))) (fun q => q.elim (fun h => hm (Or.inr (Or.inr (Or.inr (Or.inr (Or.inr (Or.inr (Or.inr (Or.inr (Or.inr (Or.inl h))))))))))) (fun q => q.elim (fun h => hm (Or.inr (Or.inr (Or.inr (Or.inr (Or.inr (Or.inr (Or.inr (Or.inr (Or.inr (Or.inr (Or.inl h)))))))))))) (fun h => hm (Or.inr (Or.inr (Or.inr (Or.inr (Or.inr (Or.inr (Or.inr (Or.inr (Or.inr (Or.inr (Or.inr h)))))))))))))))))))))))))))))) hy_174 (Or.inl ⟨by first | (clear ha1 hv2 h_7 h_8 h_9 h_10 h_11 h_19 h_27 h_24 h_53 h_48 h_54 h_55 h_91 h_143 h_158 h_153 h_159 h_169 h_165 h_170 h_25 h_26 h_28 h_49 h_50 h_51 h_52 h_94 h_142 h_154 h_155 h_156 h_157 h_166 h_167 h_168; omega) | omega, by first | (clear ha1 hv2 h_7 h_8 h_9 h_10 h_11 h_19 h_27 h_24 h_53 h_48 h_54 h_55 h_91 h_143 h_158 h_153 h_159 h_169 h_165 h_170 h_25 h_26 h_28 h_49 h_50 h_51 h_52 h_94 h_142 h_154 h_155 h_156 h_157 h_166 h_167 h_168; omega) | omega, by first | (clear ha1 hv2 h_7 h_8 h_9 h_10 h_11 h_19 h_27 h_24 h_53 h_48 h_54 h_55 h_91 h_143 h_158 h_153 h_159 h_169 h_165 h_170 h_25 h_26 h_28 h_49 h_50 h_51 h_52 h_94 h_142 h_154 h_155 h_156 h_157 h_166 h_167 h_168; omega) | omega, by first | (clear ha1 hv2 h_7 h_8 h_9 h_10 h_11 h_19 h_27 h_24 h_53 h_48 h_54 h_55 h_91 h_143 h_158 h_153 h_159 h_169 h_165 h_170 h_25 h_26 h_28 h_49 h_50 h_51 h_52 h_94 h_142 h_154 h_155 h_156 h_157 h_166 h_167 h_168; omega) | omega⟩)
set_option maxRecDepth 100000 in
set_option maxHeartbeats 4000000 in
theorem s_207 {sc : List Int32} {e : Int} {d u P Q : Nat} {c : ME} {a1 : Int} {Z : AR → Prop} (hI : Iv u e P Q c) (ha1 : (-2147483648) ≤ a1 ∧ a1 ≤ 2147483647) (K : ∀ (c2 : ME) (y : Int), Iv u e P Q c2 → (∀ (a : Nat) (j : Int), ¬ ((a = 41 ∧ j = 0) ∨ a = 42 ∨ (a = 41 ∧ j = 2) ∨ (a = 41 ∧ j = 3) ∨ (a = 41 ∧ j = 4) ∨ (a = 41 ∧ j = 5) ∨ (a = 41 ∧ j = 6) ∨ (a = 41 ∧ j = 7) ∨ (a = 41 ∧ j = 8) ∨ (a = 41 ∧ j = 48) ∨ a = 63 ∨ a = 64) → c2 a j = c a j) → (-2147483648) ≤ y ∧ y ≤ 2147483647 → ((c2 41 2 = 0 ∧ a1 ≥ 0 ∧ a1 ≤ c 41 2 ∧ a1 ≤ 60) ∨ (c2 41 2 = c 41 2 ∧ a1 < 0) ∨ (c2 41 2 = c 41 2 ∧ a1 > c 41 2) ∨ (c2 41 2 = c 41 2 ∧ a1 > 60)) → Z (.inl (some (vi y)), Wd P Q P P c2, 0, 0)) : Wp sc (d + 9) 207 0 [(0, .ref 41), (1, vi a1)] [] (Wd P Q P P c) 0 0 Z := by
  have hP := iv_P hI
  have hQ := iv_Q hI
  refine q_aload_n rfl rfl (q_iconst rfl (v_pi (z := 0) rfl rfl rfl (Nat.le_of_ble_eq_true rfl) rfl rfl rfl (by decide) (q_aload_n rfl rfl (q_iload_n rfl rfl (v_cv rfl rfl rfl rfl (Nat.le_of_ble_eq_true rfl) ⟨⟨rfl, rfl⟩, Nat.le_of_ble_eq_true rfl, rfl⟩ (Nat.le_of_ble_eq_true rfl) (Nat.le_of_ble_eq_true rfl) (q_aload_n rfl rfl (q_iload_n rfl rfl ?_)))))))
  by_cases h_184 : a1 < 0
  · refine v_if_lt_t (t := 23) rfl rfl ⟨ha1.1, h_184, by decide⟩ (q_iconst rfl (q_iconst rfl (q_iconst rfl (v_cv rfl rfl rfl rfl (Nat.le_of_ble_eq_true rfl) ⟨⟨rfl, rfl⟩, Nat.le_of_ble_eq_true rfl, rfl⟩ (Nat.le_of_ble_eq_true rfl) (Nat.le_of_ble_eq_true rfl) (q_iload_n rfl rfl (v_if_ne_f (t := 26) rfl rfl (by decide) (q_aload_n rfl rfl ?_)))))))
    refine v_gi (z := 0) (v := 0) rfl rfl rfl (Nat.le_of_ble_eq_true rfl) rfl rfl (up_e rfl) (v_if_ne_f (t := 26) rfl rfl (by decide) (q_aload_n rfl rfl (q_iload_n rfl rfl (v_pi (z := 0) rfl rfl rfl (Nat.le_of_ble_eq_true rfl) rfl rfl rfl (by decide) (q_aload_n rfl rfl (v_gr (t := 42) rfl rfl rfl (Nat.le_of_ble_eq_true rfl) rfl (q_iload_n rfl rfl ?_)))))))
    refine q_dup2 rfl ⟨rfl, rfl⟩ ?_
    have h_185 := ir_42 hI 1
    refine v_ia (v := c 42 1) rfl rfl (by decide) (by decide) (by decide) ((up_c (nn rfl)).trans (up_c (nn rfl))) (q_iconst rfl (v_iadd (v := c 42 1 + 1) rfl rfl (v_nrm (fun y_186 hy_186 => (v_is rfl rfl (by decide) (by decide) (by decide) (q_aload_n rfl rfl (v_gi (z := 0) (v := 1) rfl rfl rfl (Nat.le_of_ble_eq_true rfl) rfl rfl ((up_c (nn rfl)).trans (up_e rfl)) (v_if_ne_t (t := 37) rfl rfl (by decide) ?_))))))))
    refine q_iconst rfl (v_zret rfl rfl (by decide) (bk_inl (v_zret rfl rfl (by decide) (bk_inl (v_if_ne_f (t := 15) rfl rfl (by decide) (q_iconst rfl (q_iret rfl rfl ?_)))))))
    have hI_187 := iw_41_0 (v := 0) hI ⟨by decide, by decide⟩
    have hI_188 := iw_41_0 (v := 1) hI_187 ⟨by decide, by decide⟩
    have hI_189 := iw_42 (j := 1) (v := y_186) hI_188 ⟨hy_186.1, hy_186.2⟩
    have h_190 := ir_41_2 hI
    have h_191 : (up (up (up c 41 0 0) 41 0 1) 42 1 y_186) 41 2 = c 41 2 := ((up_c (nn rfl)).trans ((up_n (by decide)).trans (up_n (by decide))))
    exact K (up (up (up c 41 0 0) 41 0 1) 42 1 y_186) 0 hI_189 (fun a j hm => (up_b (Decidable.or_iff_not_imp_left.mpr (fun h1 h2 => hm (Or.inr (Or.inl (Decidable.not_not.mp h1)))))).trans ((up_b (Decidable.or_iff_not_imp_left.mpr (fun h1 h2 => hm (Or.inl ⟨Decidable.not_not.mp h1, h2⟩)))).trans (up_b (Decidable.or_iff_not_imp_left.mpr (fun h1 h2 => hm (Or.inl ⟨Decidable.not_not.mp h1, h2⟩)))))) ⟨by decide, by decide⟩ (Or.inr (Or.inl ⟨by first | exact q_94b7ed2f4 | omega, by first | exact q_e97a17f6e h_184 | omega⟩))
  · refine v_if_lt_f (t := 23) rfl rfl ⟨by decide, (Int.not_lt.mp h_184), ha1.2⟩ (q_iload_n rfl rfl (q_aload_n rfl rfl ?_))
    have h_192 := ir_41_2 hI
    refine v_gi (z := 2) (v := c 41 2) rfl rfl rfl (Nat.le_of_ble_eq_true rfl) rfl rfl (up_n (by decide)) ?_
    by_cases h_193 : a1 > c 41 2
    · refine v_ic_gt_t (t := 23) rfl rfl ⟨(Int.le_trans (by decide) h_192.1), h_193, ha1.2⟩ (q_iconst rfl (q_iconst rfl (q_iconst rfl (v_cv rfl rfl rfl rfl (Nat.le_of_ble_eq_true rfl) ⟨⟨rfl, rfl⟩, Nat.le_of_ble_eq_true rfl, rfl⟩ (Nat.le_of_ble_eq_true rfl) (Nat.le_of_ble_eq_true rfl) (q_iload_n rfl rfl (v_if_ne_f (t := 26) rfl rfl (by decide) (q_aload_n rfl rfl ?_)))))))
      refine v_gi (z := 0) (v := 0) rfl rfl rfl (Nat.le_of_ble_eq_true rfl) rfl rfl (up_e rfl) (v_if_ne_f (t := 26) rfl rfl (by decide) (q_aload_n rfl rfl (q_iload_n rfl rfl (v_pi (z := 0) rfl rfl rfl (Nat.le_of_ble_eq_true rfl) rfl rfl rfl (by decide) (q_aload_n rfl rfl (v_gr (t := 42) rfl rfl rfl (Nat.le_of_ble_eq_true rfl) rfl (q_iload_n rfl rfl ?_)))))))
      refine q_dup2 rfl ⟨rfl, rfl⟩ ?_
      have h_194 := ir_42 hI 1
      refine v_ia (v := c 42 1) rfl rfl (by decide) (by decide) (by decide) ((up_c (nn rfl)).trans (up_c (nn rfl))) (q_iconst rfl (v_iadd (v := c 42 1 + 1) rfl rfl (v_nrm (fun y_195 hy_195 => (v_is rfl rfl (by decide) (by decide) (by decide) (q_aload_n rfl rfl (v_gi (z := 0) (v := 1) rfl rfl rfl (Nat.le_of_ble_eq_true rfl) rfl rfl ((up_c (nn rfl)).trans (up_e rfl)) (v_if_ne_t (t := 37) rfl rfl (by decide) ?_))))))))
      refine q_iconst rfl (v_zret rfl rfl (by decide) (bk_inl (v_zret rfl rfl (by decide) (bk_inl (v_if_ne_f (t := 15) rfl rfl (by decide) (q_iconst rfl (q_iret rfl rfl ?_)))))))
      have hI_196 := iw_41_0 (v := 0) hI ⟨by decide, by decide⟩
      have hI_197 := iw_41_0 (v := 1) hI_196 ⟨by decide, by decide⟩
      have hI_198 := iw_42 (j := 1) (v := y_195) hI_197 ⟨hy_195.1, hy_195.2⟩
      have h_199 : (up (up (up c 41 0 0) 41 0 1) 42 1 y_195) 41 2 = c 41 2 := ((up_c (nn rfl)).trans ((up_n (by decide)).trans (up_n (by decide))))
      exact K (up (up (up c 41 0 0) 41 0 1) 42 1 y_195) 0 hI_198 (fun a j hm => (up_b (Decidable.or_iff_not_imp_left.mpr (fun h1 h2 => hm (Or.inr (Or.inl (Decidable.not_not.mp h1)))))).trans ((up_b (Decidable.or_iff_not_imp_left.mpr (fun h1 h2 => hm (Or.inl ⟨Decidable.not_not.mp h1, h2⟩)))).trans (up_b (Decidable.or_iff_not_imp_left.mpr (fun h1 h2 => hm (Or.inl ⟨Decidable.not_not.mp h1, h2⟩)))))) ⟨by decide, by decide⟩ (Or.inr (Or.inr (Or.inl ⟨by first | exact q_94b7ed2f4 | omega, by first | exact q_0e7f65a30 h_193 | omega⟩)))
    · refine v_ic_gt_f (t := 23) rfl rfl ⟨ha1.1, (Int.not_lt.mp h_193), (Int.le_trans h_192.2 (by decide))⟩ (q_iload_n rfl rfl (v_bip rfl (by decide) ?_))
      by_cases h_200 : a1 > 60
      · refine v_ic_gt_t (t := 23) rfl rfl ⟨by decide, h_200, ha1.2⟩ (q_iconst rfl (q_iconst rfl (q_iconst rfl (v_cv rfl rfl rfl rfl (Nat.le_of_ble_eq_true rfl) ⟨⟨rfl, rfl⟩, Nat.le_of_ble_eq_true rfl, rfl⟩ (Nat.le_of_ble_eq_true rfl) (Nat.le_of_ble_eq_true rfl) (q_iload_n rfl rfl (v_if_ne_f (t := 26) rfl rfl (by decide) (q_aload_n rfl rfl ?_)))))))
        refine v_gi (z := 0) (v := 0) rfl rfl rfl (Nat.le_of_ble_eq_true rfl) rfl rfl (up_e rfl) (v_if_ne_f (t := 26) rfl rfl (by decide) (q_aload_n rfl rfl (q_iload_n rfl rfl (v_pi (z := 0) rfl rfl rfl (Nat.le_of_ble_eq_true rfl) rfl rfl rfl (by decide) (q_aload_n rfl rfl (v_gr (t := 42) rfl rfl rfl (Nat.le_of_ble_eq_true rfl) rfl (q_iload_n rfl rfl ?_)))))))
        refine q_dup2 rfl ⟨rfl, rfl⟩ ?_
        have h_201 := ir_42 hI 1
        refine v_ia (v := c 42 1) rfl rfl (by decide) (by decide) (by decide) ((up_c (nn rfl)).trans (up_c (nn rfl))) (q_iconst rfl (v_iadd (v := c 42 1 + 1) rfl rfl (v_nrm (fun y_202 hy_202 => (v_is rfl rfl (by decide) (by decide) (by decide) (q_aload_n rfl rfl (v_gi (z := 0) (v := 1) rfl rfl rfl (Nat.le_of_ble_eq_true rfl) rfl rfl ((up_c (nn rfl)).trans (up_e rfl)) (v_if_ne_t (t := 37) rfl rfl (by decide) ?_))))))))
        refine q_iconst rfl (v_zret rfl rfl (by decide) (bk_inl (v_zret rfl rfl (by decide) (bk_inl (v_if_ne_f (t := 15) rfl rfl (by decide) (q_iconst rfl (q_iret rfl rfl ?_)))))))
        have hI_203 := iw_41_0 (v := 0) hI ⟨by decide, by decide⟩
        have hI_204 := iw_41_0 (v := 1) hI_203 ⟨by decide, by decide⟩
        have hI_205 := iw_42 (j := 1) (v := y_202) hI_204 ⟨hy_202.1, hy_202.2⟩
        have h_206 : (up (up (up c 41 0 0) 41 0 1) 42 1 y_202) 41 2 = c 41 2 := ((up_c (nn rfl)).trans ((up_n (by decide)).trans (up_n (by decide))))
        exact K (up (up (up c 41 0 0) 41 0 1) 42 1 y_202) 0 hI_205 (fun a j hm => (up_b (Decidable.or_iff_not_imp_left.mpr (fun h1 h2 => hm (Or.inr (Or.inl (Decidable.not_not.mp h1)))))).trans ((up_b (Decidable.or_iff_not_imp_left.mpr (fun h1 h2 => hm (Or.inl ⟨Decidable.not_not.mp h1, h2⟩)))).trans (up_b (Decidable.or_iff_not_imp_left.mpr (fun h1 h2 => hm (Or.inl ⟨Decidable.not_not.mp h1, h2⟩)))))) ⟨by decide, by decide⟩ (Or.inr (Or.inr (Or.inr ⟨by first | exact q_94b7ed2f4 | omega, by first | exact q_9336c0ad2 h_200 | omega⟩)))
      · refine v_ic_gt_f (t := 23) rfl rfl ⟨ha1.1, (Int.not_lt.mp h_200), by decide⟩ (q_iconst rfl (q_goto (t := 24) rfl rfl (q_iconst rfl (q_iconst rfl (v_cv rfl rfl rfl rfl (Nat.le_of_ble_eq_true rfl) ⟨⟨rfl, rfl⟩, Nat.le_of_ble_eq_true rfl, rfl⟩ (Nat.le_of_ble_eq_true rfl) (Nat.le_of_ble_eq_true rfl) (q_iload_n rfl rfl (v_if_ne_t (t := 26) rfl rfl (by decide) ?_)))))))
        refine q_aload_n rfl rfl (v_gi (z := 0) (v := 0) rfl rfl rfl (Nat.le_of_ble_eq_true rfl) rfl rfl (up_e rfl) (v_if_ne_f (t := 37) rfl rfl (by decide) (q_iconst rfl (q_goto (t := 38) rfl rfl (v_zret rfl rfl (by decide) (bk_inl (v_zret rfl rfl (by decide) ?_)))))))
        refine bk_inl (v_if_ne_t (t := 15) rfl rfl (by decide) (q_aload_n rfl rfl (q_iload_n rfl rfl ?_)))
        have hI_207 := iw_41_0 (v := 0) hI ⟨by decide, by decide⟩
        refine v_cv rfl rfl rfl rfl (Nat.le_of_ble_eq_true rfl) ⟨⟨rfl, rfl⟩, Nat.le_of_ble_eq_true rfl, rfl⟩ (Nat.le_of_ble_eq_true rfl) (Nat.le_of_ble_eq_true rfl) (s_163 (a1 := a1) hI_207 (show 0 ≤ a1 ∧ a1 ≤ 600 from ⟨by first | exact q_720657ba9 h_184 | omega, by first | exact q_6d55548be h_200 | omega⟩) (fun c_208 hI_209 hF_210 h_211 => (bk_inl ?_)))
        have h_212 := ir_41_2 hI_209
        have h_213 := ir_41_3 hI_209
        have h_214 := ir_41_4 hI_209
        have h_215 := ir_41_5 hI_209
        have h_216 := ir_41_7 hI_209
        refine q_iconst rfl (q_istore_n rfl (Nat.le_of_ble_eq_true rfl) (Wp_ls [(0, .ref 41), (1, vi a1), (2, vi 0)] (lsub_cons rfl (lsub_cons rfl (lsub_cons rfl lsub_nil))) ?_))
        exact (s_207_l (sc := sc) (d := d) hI ha1 K 1225).1 c_208 0 hI_209 (fun a j hm => (hF_210 a j (fun q => q.elim (fun h => hm (Or.inr (Or.inr (Or.inl h)))) (fun q => q.elim (fun h => hm (Or.inr (Or.inr (Or.inr (Or.inl h))))) (fun q => q.elim (fun h => hm (Or.inr (Or.inr (Or.inr (Or.inr (Or.inl h)))))) (fun q => q.elim (fun h => hm (Or.inr (Or.inr (Or.inr (Or.inr (Or.inr (Or.inl h))))))) (fun q => q.elim (fun h => hm (Or.inr (Or.inr (Or.inr (Or.inr (Or.inr (Or.inr (Or.inr (Or.inl h))))))))) (fun h => hm (Or.inr (Or.inr (Or.inr (Or.inr (Or.inr (Or.inr (Or.inr (Or.inr (Or.inl h)))))))))))))))).trans (up_b (Decidable.or_iff_not_imp_left.mpr (fun h1 h2 => hm (Or.inl ⟨Decidable.not_not.mp h1, h2⟩))))) ⟨by decide, by decide⟩ ⟨by omega, by first | exact q_720657ba9 h_184 | omega, by first | exact q_0325d56da h_193 | omega, by first | exact q_8be6814e3 h_200 | omega⟩ (by omega)

set_option maxRecDepth 100000 in
set_option maxHeartbeats 4000000 in
theorem s_208b_l {sc : List Int32} {d P Q : Nat} {c : ME} {Z : AR → Prop} (hI : Iv 58 (-1) P Q c) (hq0 : (c 41 35 ≤ 15)) (K : ∀ (c2 : ME) (y : Int), Iv 0 (-1) P Q c2 → (∀ (a : Nat) (j : Int), ¬ ((a = 41 ∧ j = 36) ∨ a = 58) → c2 a j = c a j) → (-1) ≤ y ∧ y ≤ 16 → ((y = c2 41 35)) → Z (.inl (some (vi y)), Wd P Q P P c2, 0, 0)) : ∀ n : Nat, (∀ (c2 : ME) (v1 : Int), Iv 58 (-1) P Q c2 → (∀ (a : Nat) (j : Int), ¬ ((a = 41 ∧ j = 36) ∨ a = 58) → c2 a j = c a j) → 0 ≤ v1 ∧ v1 ≤ 37 → (∀ j : Int, 0 ≤ j → j < v1 → c2 58 j = c 60 (37 * c 41 35 + j)) → 75 - 2 * v1 < (n : Int) → Wp sc (d + 7) 208 26 [(0, .ref 41), (1, vi v1)] [] (Wd P Q P P c2) 0 0 Z)
  | 0 => by intro c2 v1 hI2 hF hv1 hx0 hm9; have hP := iv_P hI; have hQ := iv_Q hI; exfalso; omega
  | n + 1 => by
    have hP := iv_P hI
    have hQ := iv_Q hI
    have ih := s_208b_l (sc := sc) (d := d) hI hq0 K n
    intro c2 v1 hI2 hF hv1 hx0 hm9
    have h_1 := ir_41_35 hI
    refine q_iload_n rfl rfl (v_bip rfl (by decide) ?_)
    by_cases h_2 : v1 ≥ 37
    · refine v_ic_ge_t (t := 58) rfl rfl ⟨by decide, h_2, (Int.le_trans hv1.2 (by decide))⟩ (q_aload_n rfl rfl (q_iconst rfl (v_pi (z := 36) rfl rfl rfl (Nat.le_of_ble_eq_true rfl) rfl rfl rfl (by decide) (q_aload_n rfl rfl ?_))))
      have kn_3 : Hid (c2 41 35 = c 41 35) := hF 41 35 (fun q => q.elim (fun h => absurd h.2 (ni rfl)) (fun h => absurd h (nn rfl)))
      refine v_gi (z := 35) (v := c 41 35) rfl rfl rfl (Nat.le_of_ble_eq_true rfl) rfl rfl ((up_n (by decide)).trans (hid kn_3)) (q_iret rfl rfl ?_)
      have hI_4 := iw_41_36 (v := 0) hI2 ⟨by decide, by decide⟩
      have hI_5 := iv_close hI_4 (fun j hj => by
        have q9 : j % 4 = 0 ∧ 0 ≤ j ∧ j < 24 := hj
        have e9 : ∀ i : Int, 0 ≤ i → i < 37 → (up c2 41 36 0) 58 i = c 60 (37 * c 41 35 + i) := fun i h1 h2 => (up_c (by omega)).trans (hx0 i h1 (by omega))
        rw [e9 j (by omega) (by omega), e9 (j + 1) (by omega) (by omega), e9 (j + 2) (by omega) (by omega), e9 (j + 3) (by omega) (by omega), show 37 * c 41 35 + (j + 1) = 37 * c 41 35 + j + 1 by omega, show 37 * c 41 35 + (j + 2) = 37 * c 41 35 + j + 2 by omega, show 37 * c 41 35 + (j + 3) = 37 * c 41 35 + j + 3 by omega]
        exact iv_r hI 60 (37 * c 41 35 + j) (by rw [ri_60]; have h8 : (37 * c 41 35 + j) / 37 = c 41 35 := (by omega); omega) (by omega))
      have h_6 : (up c2 41 36 0) 41 35 = c 41 35 := ((up_n (by decide)).trans (hid kn_3))
      exact K (up c2 41 36 0) (c 41 35) hI_5 (fun a j hm => (up_b (Decidable.or_iff_not_imp_left.mpr (fun h1 h2 => hm (Or.inl ⟨Decidable.not_not.mp h1, h2⟩)))).trans (hF a j (fun q => q.elim (fun h => hm (Or.inl h)) (fun h => hm (Or.inr h))))) ⟨(Int.le_trans (by decide) h_1.1), h_1.2⟩ (by first | exact q_94b7ed2f4 | omega)
    · refine v_ic_ge_f (t := 58) rfl rfl ⟨(Int.le_trans (by decide) hv1.1), (Int.not_le.mp h_2), by decide⟩ (q_aload_n rfl rfl (v_gr (t := 58) rfl rfl rfl (Nat.le_of_ble_eq_true rfl) rfl (q_iload_n rfl rfl (q_aload_n rfl rfl (v_gr (t := 60) rfl rfl rfl (Nat.le_of_ble_eq_true rfl) rfl (v_bip rfl (by decide) (q_aload_n rfl rfl ?_)))))))
      have kn_7 : Hid (c2 41 35 = c 41 35) := hF 41 35 (fun q => q.elim (fun h => absurd h.2 (ni rfl)) (fun h => absurd h (nn rfl)))
      refine v_gi (z := 35) (v := c 41 35) rfl rfl rfl (Nat.le_of_ble_eq_true rfl) rfl rfl (hid kn_7) (v_imul (v := 37 * c 41 35) rfl (by omega) (q_iload_n rfl rfl (v_iadd (v := 37 * c 41 35 + v1) rfl rfl ?_)))
      have h_8 := ir_60 hI (37 * c 41 35 + v1)
      have h_9 : v1 < 24 → 0 ≤ c 60 (37 * c 41 35 + v1) ∧ c 60 (37 * c 41 35 + v1) ≤ 9999 := fun q9 => ir_60_g hI (j := 37 * c 41 35 + v1) (by omega)
      have kn_10 : Hid (c2 60 (37 * c 41 35 + v1) = c 60 (37 * c 41 35 + v1)) := hF 60 (37 * c 41 35 + v1) (fun q => q.elim (fun h => absurd h.1 (nn rfl)) (fun h => absurd h (nn rfl)))
      refine v_ia (v := c 60 (37 * c 41 35 + v1)) rfl rfl (by decide) (by decide) ⟨by first | exact q_6c1724e14 h_1 hv1 | (clear hq0 h_2 h_8 h_9; omega) | omega, by first | exact q_d8bb91acd h_2 hq0 | (clear hv1 h_1 h_8 h_9; omega) | omega⟩ (hid kn_10) (v_is rfl rfl (by decide) (by decide) ⟨hv1.1, by first | exact q_3cc4a238e h_2 | (clear hq0 hv1 h_1 h_8 h_9; omega) | omega⟩ (v_iinc (v := v1 + 1) rfl rfl (Nat.le_of_ble_eq_true rfl) rfl (q_goto (t := 26) rfl rfl ?_)))
      have hI_11 := iw_row (a := 58) (j := v1) (v := c 60 (37 * c 41 35 + v1)) hI2 (by omega) (Or.inl rfl) ⟨by omega, by omega, by omega⟩
      refine Wp_ls [(0, .ref 41), (1, vi (v1 + 1))] (lsub_cons rfl (lsub_cons rfl lsub_nil)) ?_
      have hr_12 : ∀ j : Int, 0 ≤ j → j < v1 + 1 → (up c2 58 v1 (c 60 (37 * c 41 35 + v1))) 58 j = c 60 (37 * c 41 35 + j) := by
        intro j hj1 hj2
        by_cases e9 : j = v1
        · rw [show (up c2 58 v1 (c 60 (37 * c 41 35 + v1))) 58 j = c 60 (37 * c 41 35 + v1) from up_e e9, e9]
        · rw [show (up c2 58 v1 (c 60 (37 * c 41 35 + v1))) 58 j = c2 58 j from up_n e9]; exact hx0 j hj1 (by omega)
      exact ih (up c2 58 v1 (c 60 (37 * c 41 35 + v1))) (v1 + 1) hI_11 (fun a j hm => (up_b (Decidable.or_iff_not_imp_left.mpr (fun h1 h2 => hm (Or.inr (Decidable.not_not.mp h1))))).trans (hF a j (fun q => q.elim (fun h => hm (Or.inl h)) (fun h => hm (Or.inr h))))) ⟨by first | exact rgp_l hv1.1 (by decide) | omega, by first | exact q_6a0ddf4b6 h_2 | (clear hq0 hv1 h_1 h_8 h_9; omega) | omega⟩ hr_12 (by omega)
set_option maxRecDepth 100000 in
set_option maxHeartbeats 4000000 in
theorem s_208b {sc : List Int32} {d P Q : Nat} {c : ME} {Z : AR → Prop} (hI : Iv 58 (-1) P Q c) (hq0 : (c 41 35 ≤ 15)) (K : ∀ (c2 : ME) (y : Int), Iv 0 (-1) P Q c2 → (∀ (a : Nat) (j : Int), ¬ ((a = 41 ∧ j = 36) ∨ a = 58) → c2 a j = c a j) → (-1) ≤ y ∧ y ≤ 16 → ((y = c2 41 35)) → Z (.inl (some (vi y)), Wd P Q P P c2, 0, 0)) : Wp sc (d + 7) 208 24 [(0, .ref 41)] [] (Wd P Q P P c) 0 0 Z := by
  have hP := iv_P hI
  have hQ := iv_Q hI
  have h_13 := ir_41_35 hI
  refine q_iconst rfl (q_istore_n rfl (Nat.le_of_ble_eq_true rfl) (Wp_ls [(0, .ref 41), (1, vi 0)] (lsub_cons rfl (lsub_cons rfl lsub_nil)) ?_))
  have hr_14 : ∀ j : Int, 0 ≤ j → j < 0 → c 58 j = c 60 (37 * c 41 35 + j) := by
    intro j hj1 hj2
    omega
  exact (s_208b_l (sc := sc) (d := d) hI hq0 K 78) c 0 hI (fun a j hm => rfl) ⟨by decide, by decide⟩ hr_14 (by omega)
set_option maxRecDepth 100000 in
set_option maxHeartbeats 4000000 in
theorem s_208 {sc : List Int32} {d P Q : Nat} {c : ME} {Z : AR → Prop} (hI : Iv 0 (-1) P Q c)  (K : ∀ (c2 : ME) (y : Int), Iv 0 (-1) P Q c2 → (∀ (a : Nat) (j : Int), ¬ ((a = 41 ∧ j = 0) ∨ (a = 41 ∧ j = 35) ∨ (a = 41 ∧ j = 36) ∨ a = 58) → c2 a j = c a j) → (-1) ≤ y ∧ y ≤ 16 → ((c 41 35 = 0 ∧ c2 41 35 = 0 ∧ y = (-1)) ∨ (c 41 35 > 0 ∧ c2 41 35 = c 41 35 - 1 ∧ y = c2 41 35)) → Z (.inl (some (vi y)), Wd P Q P P c2, 0, 0)) : Wp sc (d + 7) 208 0 [(0, .ref 41)] [] (Wd P Q P P c) 0 0 Z := by
  have hP := iv_P hI
  have hQ := iv_Q hI
  refine q_aload_n rfl rfl (q_iconst rfl (v_pi (z := 0) rfl rfl rfl (Nat.le_of_ble_eq_true rfl) rfl rfl rfl (by decide) (q_aload_n rfl rfl ?_)))
  have h_1 := ir_41_35 hI
  refine v_gi (z := 35) (v := c 41 35) rfl rfl rfl (Nat.le_of_ble_eq_true rfl) rfl rfl (up_n (by decide)) ?_
  by_cases h_2 : c 41 35 ≠ 0
  · refine v_if_ne_t (t := 14) rfl rfl ⟨h_2, ⟨(Int.le_trans (by decide) h_1.1), (Int.le_trans h_1.2 (by decide))⟩, by decide, by decide⟩ (q_aload_n rfl rfl (q_dup rfl rfl (v_gi (z := 35) (v := c 41 35) rfl rfl rfl (Nat.le_of_ble_eq_true rfl) rfl rfl (up_n (by decide)) (q_iconst rfl (v_isub (v := c 41 35 - 1) rfl rfl (v_pi (z := 35) rfl rfl rfl (Nat.le_of_ble_eq_true rfl) rfl rfl rfl (by decide) ?_))))))
    have hI_3 := iw_41_0 (v := 0) hI ⟨by decide, by decide⟩
    have hI_4 := iw_41_35 (v := c 41 35 - 1) hI_3 ⟨by first | exact q_2a2e68b1b h_1 h_2 | omega, by first | exact rgm_h h_1.2 (by decide) | omega⟩
    have hw9 : (up (up c 41 0 0) 41 35 (c 41 35 - 1)) 41 35 = c 41 35 - 1 := (up_e rfl)
    refine Wp_ls [(0, .ref 41)] (lsub_cons rfl lsub_nil) ?_
    exact s_208b (iv_open hI_4) (by omega) (fun c9 y9 hI9 hF9 hy9 h9 => K c9 y9 hI9 (fun a j hm => (hF9 a j (by omega)).trans ((up_b (by omega)).trans (up_b (by omega)))) hy9 (by have h8 := hF9 41 35 (by omega); omega))
  · refine v_if_ne_f (t := 14) rfl rfl (Decidable.not_not.mp h_2) (q_iconst rfl (q_iret rfl rfl ?_))
    have hI_5 := iw_41_0 (v := 0) hI ⟨by decide, by decide⟩
    have h_6 : (up c 41 0 0) 41 35 = c 41 35 := (up_n (by decide))
    exact K (up c 41 0 0) (-1) hI_5 (fun a j hm => up_b (Decidable.or_iff_not_imp_left.mpr (fun h1 h2 => hm (Or.inl ⟨Decidable.not_not.mp h1, h2⟩)))) ⟨by decide, by decide⟩ (Or.inl ⟨by first | exact q_bb0e0e122 h_1 h_2 | omega, by first | exact q_bb0e0e122 h_1 h_2 | omega, by first | decide | omega⟩)

set_option maxRecDepth 100000 in
set_option maxHeartbeats 4000000 in
theorem s_209_l {sc : List Int32} {e : Int} {d u P Q : Nat} {c : ME} {Z : AR → Prop} (hI : Iv u e P Q c)  (K : ∀ (y : Int), (-2147483648) ≤ y ∧ y ≤ 2147483647 → Z (.inl (some (vi y)), Wd P Q P P c, 0, 0)) : ∀ n : Nat, (∀ (v1 : Int) (v2 : Int), (-2147483648) ≤ v1 ∧ v1 ≤ 2147483647 → 0 ≤ v2 ∧ v2 ≤ 6 → 13 - 2 * v2 < (n : Int) → Wp sc (d + 8) 209 4 [(0, .ref 41), (1, vi v1), (2, vi v2)] [] (Wd P Q P P c) 0 0 Z)
  | 0 => by intro v1 v2 hv1 hv2 hm9; have hP := iv_P hI; have hQ := iv_Q hI; exfalso; omega
  | n + 1 => by
    have hP := iv_P hI
    have hQ := iv_Q hI
    have ih := s_209_l (sc := sc) (d := d) hI K n
    intro v1 v2 hv1 hv2 hm9
    refine q_iload_n rfl rfl (q_aload_n rfl rfl ?_)
    have h_1 := ir_41_20 hI
    refine v_gi (z := 20) (v := c 41 20) rfl rfl rfl (Nat.le_of_ble_eq_true rfl) rfl rfl rfl ?_
    by_cases h_2 : v2 ≥ c 41 20
    · refine v_ic_ge_t (t := 36) rfl rfl ⟨(Int.le_trans (by decide) h_1.1), h_2, (Int.le_trans hv2.2 (by decide))⟩ (q_iload_n rfl rfl (q_iret rfl rfl ?_))
      exact K v1 hv1
    · refine v_ic_ge_f (t := 36) rfl rfl ⟨(Int.le_trans (by decide) hv2.1), (Int.not_le.mp h_2), (Int.le_trans h_1.2 (by decide))⟩ (q_iload_n rfl rfl (q_aload_n rfl rfl (q_iload_n rfl rfl ?_)))
      have h_3 := ir_59_g hI (j := 4 * v2) (by first | exact q_aa51b186e h_1 h_2 | omega)
      have h_4 := ir_59_g hI (j := 4 * v2 + 1) (by first | exact q_57851f9de h_1 h_2 | omega)
      have h_5 := ir_59_g hI (j := 4 * v2 + 2) (by first | exact q_7296e74e6 h_1 h_2 | omega)
      have h_6 := ir_59_g hI (j := 4 * v2 + 3) (by first | exact q_b15525c4c h_1 h_2 | omega)
      refine v_cv rfl rfl rfl rfl (Nat.le_of_ble_eq_true rfl) ⟨⟨rfl, rfl⟩, Nat.le_of_ble_eq_true rfl, rfl⟩ (Nat.le_of_ble_eq_true rfl) (Nat.le_of_ble_eq_true rfl) (s_187 (v1 := c 59 (4 * v2)) (v2 := c 59 (4 * v2 + 1)) (v3 := c 59 (4 * v2 + 2)) (v4 := c 59 (4 * v2 + 3)) (r := c 59 (4 * v2 + 1) + c 59 (4 * v2 + 2) + c 59 (4 * v2 + 3) + c 59 (4 * v2)) (a1 := v2) hI (show 0 ≤ v2 ∧ v2 ≤ 5 from ⟨hv2.1, by first | exact q_d63a8538e h_1 h_2 | omega⟩) (rfl) (rfl) (rfl) (rfl) (by omega) (bk_inl ?_))
      by_cases h_7 : c 59 (4 * v2 + 1) + c 59 (4 * v2 + 2) + c 59 (4 * v2 + 3) + c 59 (4 * v2) ≠ 0
      · refine v_if_ne_t (t := 27) rfl rfl ⟨h_7, ⟨by first | exact q_e052ef40e h_3 h_4 h_5 h_6 | omega, by first | exact q_db9ef1f4a h_3 h_4 h_5 h_6 | omega⟩, by decide, by decide⟩ (q_iconst rfl (v_iorx rfl (fun y_8 hy_8 => (q_istore_n rfl (Nat.le_of_ble_eq_true rfl) (v_iinc (v := v2 + 1) rfl rfl (Nat.le_of_ble_eq_true rfl) rfl (q_goto (t := 4) rfl rfl (Wp_ls [(0, .ref 41), (1, vi y_8), (2, vi (v2 + 1))] (lsub_cons rfl (lsub_cons rfl (lsub_cons rfl lsub_nil))) ?_)))))))
        exact ih y_8 (v2 + 1) hy_8 ⟨by first | exact rgp_l hv2.1 (by decide) | omega, by first | exact q_4a76cd9c7 h_1 h_2 | (clear hv1 hv2 h_3 h_4 h_5 h_6 h_7; omega) | omega⟩ (by omega)
      · refine v_if_ne_f (t := 27) rfl rfl (Decidable.not_not.mp h_7) (q_iconst rfl (q_iload_n rfl rfl (v_shl1 rfl ⟨by omega, by omega⟩ (fun y_9 hy_9 => (q_goto (t := 28) rfl rfl (v_iorx rfl (fun y_10 hy_10 => (q_istore_n rfl (Nat.le_of_ble_eq_true rfl) (v_iinc (v := v2 + 1) rfl rfl (Nat.le_of_ble_eq_true rfl) rfl ?_)))))))))
        refine q_goto (t := 4) rfl rfl (Wp_ls [(0, .ref 41), (1, vi y_10), (2, vi (v2 + 1))] (lsub_cons rfl (lsub_cons rfl (lsub_cons rfl lsub_nil))) ?_)
        exact ih y_10 (v2 + 1) hy_10 ⟨by first | exact rgp_l hv2.1 (by decide) | omega, by first | exact q_4a76cd9c7 h_1 h_2 | omega⟩ (by omega)
set_option maxRecDepth 100000 in
set_option maxHeartbeats 4000000 in
theorem s_209 {sc : List Int32} {e : Int} {d u P Q : Nat} {c : ME} {Z : AR → Prop} (hI : Iv u e P Q c)  (K : ∀ (y : Int), (-2147483648) ≤ y ∧ y ≤ 2147483647 → Z (.inl (some (vi y)), Wd P Q P P c, 0, 0)) : Wp sc (d + 8) 209 0 [(0, .ref 41)] [] (Wd P Q P P c) 0 0 Z := by
  have hP := iv_P hI
  have hQ := iv_Q hI
  refine q_iconst rfl (q_istore_n rfl (Nat.le_of_ble_eq_true rfl) (q_iconst rfl (q_istore_n rfl (Nat.le_of_ble_eq_true rfl) (Wp_ls [(0, .ref 41), (1, vi 0), (2, vi 0)] (lsub_cons rfl (lsub_cons rfl (lsub_cons rfl lsub_nil))) ?_))))
  exact (s_209_l (sc := sc) (d := d) hI K 16) 0 0 ⟨by decide, by decide⟩ ⟨by decide, by decide⟩ (by omega)

set_option maxRecDepth 100000 in
set_option maxHeartbeats 4000000 in
theorem s_210_l {sc : List Int32} {e : Int} {d u P Q : Nat} {c : ME} {Z : AR → Prop} (hI : Iv u e P Q c)  (K : ∀ (y : Int), (-2147483648) ≤ y ∧ y ≤ 2147483647 → Z (.inl (some (vi y)), Wd P Q P P c, 0, 0)) : ∀ n : Nat, (∀ (v1 : Int) (v2 : Int), (-2147483648) ≤ v1 ∧ v1 ≤ 2147483647 → 0 ≤ v2 ∧ v2 ≤ 4 → 9 - 2 * v2 < (n : Int) → Wp sc (d + 7) 210 4 [(0, .ref 41), (1, vi v1), (2, vi v2)] [] (Wd P Q P P c) 0 0 Z)
  | 0 => by intro v1 v2 hv1 hv2 hm9; have hP := iv_P hI; have hQ := iv_Q hI; exfalso; omega
  | n + 1 => by
    have hP := iv_P hI
    have hQ := iv_Q hI
    have ih := s_210_l (sc := sc) (d := d) hI K n
    intro v1 v2 hv1 hv2 hm9
    refine q_iload_n rfl rfl (q_aload_n rfl rfl ?_)
    have h_1 := ir_41_22 hI
    refine v_gi (z := 22) (v := c 41 22) rfl rfl rfl (Nat.le_of_ble_eq_true rfl) rfl rfl rfl ?_
    by_cases h_2 : v2 ≥ c 41 22
    · refine v_ic_ge_t (t := 32) rfl rfl ⟨(Int.le_trans (by decide) h_1.1), h_2, (Int.le_trans hv2.2 (by decide))⟩ (q_iload_n rfl rfl (q_iret rfl rfl ?_))
      exact K v1 hv1
    · refine v_ic_ge_f (t := 32) rfl rfl ⟨(Int.le_trans (by decide) hv2.1), (Int.not_le.mp h_2), (Int.le_trans h_1.2 (by decide))⟩ (q_iload_n rfl rfl (q_aload_n rfl rfl (v_gr (t := 59) rfl rfl rfl (Nat.le_of_ble_eq_true rfl) rfl (v_bip rfl (by decide) (q_iload_n rfl rfl (v_iadd (v := v2 + 30) rfl (by omega) ?_))))))
      have h_3 := ir_59 hI (v2 + 30)
      refine v_ia (v := c 59 (v2 + 30)) rfl rfl (by decide) (by decide) ⟨by first | exact rgp_l hv2.1 (by decide) | omega, by first | exact q_9750a9c5c hv2 | omega⟩ rfl (q_iload_n rfl rfl (v_ishlx rfl (fun y_4 hy_4 => (v_iorx rfl (fun y_5 hy_5 => (q_istore_n rfl (Nat.le_of_ble_eq_true rfl) (v_iinc (v := v2 + 1) rfl rfl (Nat.le_of_ble_eq_true rfl) rfl (q_goto (t := 4) rfl rfl (Wp_ls [(0, .ref 41), (1, vi y_5), (2, vi (v2 + 1))] (lsub_cons rfl (lsub_cons rfl (lsub_cons rfl lsub_nil))) ?_)))))))))
      exact ih y_5 (v2 + 1) hy_5 ⟨by first | exact rgp_l hv2.1 (by decide) | omega, by first | exact q_8e33475e7 h_1 h_2 | omega⟩ (by omega)
set_option maxRecDepth 100000 in
set_option maxHeartbeats 4000000 in
theorem s_210 {sc : List Int32} {e : Int} {d u P Q : Nat} {c : ME} {Z : AR → Prop} (hI : Iv u e P Q c)  (K : ∀ (y : Int), (-2147483648) ≤ y ∧ y ≤ 2147483647 → Z (.inl (some (vi y)), Wd P Q P P c, 0, 0)) : Wp sc (d + 7) 210 0 [(0, .ref 41)] [] (Wd P Q P P c) 0 0 Z := by
  have hP := iv_P hI
  have hQ := iv_Q hI
  refine q_iconst rfl (q_istore_n rfl (Nat.le_of_ble_eq_true rfl) (q_iconst rfl (q_istore_n rfl (Nat.le_of_ble_eq_true rfl) (Wp_ls [(0, .ref 41), (1, vi 0), (2, vi 0)] (lsub_cons rfl (lsub_cons rfl (lsub_cons rfl lsub_nil))) ?_))))
  exact (s_210_l (sc := sc) (d := d) hI K 12) 0 0 ⟨by decide, by decide⟩ ⟨by decide, by decide⟩ (by omega)

set_option maxRecDepth 100000 in
set_option maxHeartbeats 4000000 in
theorem s_211 {sc : List Int32} {d P Q : Nat} {c : ME} {a1 : Int} {Z : AR → Prop} (hI : Iv 0 (-1) P Q c) (ha1 : (-2147483648) ≤ a1 ∧ a1 ≤ 2147483647) (K : ∀ (c2 : ME) (y : Int), Iv 0 (-1) P Q c2 → (∀ (a : Nat) (j : Int), ¬ ((a = 41 ∧ j = 0) ∨ a = 42 ∨ a = 59) → c2 a j = c a j) → (-2147483648) ≤ y ∧ y ≤ 2147483647 → Z (.inl (some (vi y)), Wd P Q P P c2, 0, 0)) : Wp sc (d + 9) 211 0 [(0, .ref 41), (1, vi a1)] [] (Wd P Q P P c) 0 0 Z := by
  have hP := iv_P hI
  have hQ := iv_Q hI
  refine q_aload_n rfl rfl (q_iconst rfl (v_pi (z := 0) rfl rfl rfl (Nat.le_of_ble_eq_true rfl) rfl rfl rfl (by decide) (q_aload_n rfl rfl (q_iload_n rfl rfl (q_iconst rfl (v_bip rfl (by decide) (q_call rfl rfl rfl rfl ?_)))))))
  refine q_iload_n rfl rfl (q_iload_n rfl rfl ?_)
  by_cases h_1 : a1 < 0
  · refine v_ic_lt_t (t := 14) rfl rfl ⟨ha1.1, h_1, by decide⟩ (q_iconst rfl (v_zret rfl rfl (by decide) (bk_inl (q_iconst rfl (q_iconst rfl (v_cv rfl rfl rfl rfl (Nat.le_of_ble_eq_true rfl) ⟨⟨rfl, rfl⟩, Nat.le_of_ble_eq_true rfl, rfl⟩ (Nat.le_of_ble_eq_true rfl) (Nat.le_of_ble_eq_true rfl) (q_iload_n rfl rfl ?_)))))))
    refine v_if_ne_f (t := 26) rfl rfl (by decide) (q_aload_n rfl rfl (v_gi (z := 0) (v := 0) rfl rfl rfl (Nat.le_of_ble_eq_true rfl) rfl rfl (up_e rfl) (v_if_ne_f (t := 26) rfl rfl (by decide) (q_aload_n rfl rfl (q_iload_n rfl rfl (v_pi (z := 0) rfl rfl rfl (Nat.le_of_ble_eq_true rfl) rfl rfl rfl (by decide) (q_aload_n rfl rfl ?_)))))))
    refine v_gr (t := 42) rfl rfl rfl (Nat.le_of_ble_eq_true rfl) rfl (q_iload_n rfl rfl (q_dup2 rfl ⟨rfl, rfl⟩ ?_))
    have h_2 := ir_42 hI 1
    refine v_ia (v := c 42 1) rfl rfl (by decide) (by decide) (by decide) ((up_c (nn rfl)).trans (up_c (nn rfl))) (q_iconst rfl (v_iadd (v := c 42 1 + 1) rfl rfl (v_nrm (fun y_3 hy_3 => (v_is rfl rfl (by decide) (by decide) (by decide) (q_aload_n rfl rfl (v_gi (z := 0) (v := 1) rfl rfl rfl (Nat.le_of_ble_eq_true rfl) rfl rfl ((up_c (nn rfl)).trans (up_e rfl)) (v_if_ne_t (t := 37) rfl rfl (by decide) ?_))))))))
    refine q_iconst rfl (v_zret rfl rfl (by decide) (bk_inl (v_if_ne_f (t := 23) rfl rfl (by decide) (q_iconst rfl (q_iret rfl rfl ?_)))))
    have hI_4 := iw_41_0 (v := 0) hI ⟨by decide, by decide⟩
    have hI_5 := iw_41_0 (v := 1) hI_4 ⟨by decide, by decide⟩
    have hI_6 := iw_42 (j := 1) (v := y_3) hI_5 ⟨hy_3.1, hy_3.2⟩
    exact K (up (up (up c 41 0 0) 41 0 1) 42 1 y_3) 0 hI_6 (fun a j hm => (up_b (Decidable.or_iff_not_imp_left.mpr (fun h1 h2 => hm (Or.inr (Or.inl (Decidable.not_not.mp h1)))))).trans ((up_b (Decidable.or_iff_not_imp_left.mpr (fun h1 h2 => hm (Or.inl ⟨Decidable.not_not.mp h1, h2⟩)))).trans (up_b (Decidable.or_iff_not_imp_left.mpr (fun h1 h2 => hm (Or.inl ⟨Decidable.not_not.mp h1, h2⟩)))))) ⟨by decide, by decide⟩
  · refine v_ic_lt_f (t := 14) rfl rfl ⟨by decide, (Int.not_lt.mp h_1), ha1.2⟩ (q_iload_n rfl rfl (q_iload_n rfl rfl ?_))
    by_cases h_7 : a1 > 12
    · refine v_ic_gt_t (t := 14) rfl rfl ⟨by decide, h_7, ha1.2⟩ (q_iconst rfl (v_zret rfl rfl (by decide) (bk_inl (q_iconst rfl (q_iconst rfl (v_cv rfl rfl rfl rfl (Nat.le_of_ble_eq_true rfl) ⟨⟨rfl, rfl⟩, Nat.le_of_ble_eq_true rfl, rfl⟩ (Nat.le_of_ble_eq_true rfl) (Nat.le_of_ble_eq_true rfl) (q_iload_n rfl rfl ?_)))))))
      refine v_if_ne_f (t := 26) rfl rfl (by decide) (q_aload_n rfl rfl (v_gi (z := 0) (v := 0) rfl rfl rfl (Nat.le_of_ble_eq_true rfl) rfl rfl (up_e rfl) (v_if_ne_f (t := 26) rfl rfl (by decide) (q_aload_n rfl rfl (q_iload_n rfl rfl (v_pi (z := 0) rfl rfl rfl (Nat.le_of_ble_eq_true rfl) rfl rfl rfl (by decide) (q_aload_n rfl rfl ?_)))))))
      refine v_gr (t := 42) rfl rfl rfl (Nat.le_of_ble_eq_true rfl) rfl (q_iload_n rfl rfl (q_dup2 rfl ⟨rfl, rfl⟩ ?_))
      have h_8 := ir_42 hI 1
      refine v_ia (v := c 42 1) rfl rfl (by decide) (by decide) (by decide) ((up_c (nn rfl)).trans (up_c (nn rfl))) (q_iconst rfl (v_iadd (v := c 42 1 + 1) rfl rfl (v_nrm (fun y_9 hy_9 => (v_is rfl rfl (by decide) (by decide) (by decide) (q_aload_n rfl rfl (v_gi (z := 0) (v := 1) rfl rfl rfl (Nat.le_of_ble_eq_true rfl) rfl rfl ((up_c (nn rfl)).trans (up_e rfl)) (v_if_ne_t (t := 37) rfl rfl (by decide) ?_))))))))
      refine q_iconst rfl (v_zret rfl rfl (by decide) (bk_inl (v_if_ne_f (t := 23) rfl rfl (by decide) (q_iconst rfl (q_iret rfl rfl ?_)))))
      have hI_10 := iw_41_0 (v := 0) hI ⟨by decide, by decide⟩
      have hI_11 := iw_41_0 (v := 1) hI_10 ⟨by decide, by decide⟩
      have hI_12 := iw_42 (j := 1) (v := y_9) hI_11 ⟨hy_9.1, hy_9.2⟩
      exact K (up (up (up c 41 0 0) 41 0 1) 42 1 y_9) 0 hI_12 (fun a j hm => (up_b (Decidable.or_iff_not_imp_left.mpr (fun h1 h2 => hm (Or.inr (Or.inl (Decidable.not_not.mp h1)))))).trans ((up_b (Decidable.or_iff_not_imp_left.mpr (fun h1 h2 => hm (Or.inl ⟨Decidable.not_not.mp h1, h2⟩)))).trans (up_b (Decidable.or_iff_not_imp_left.mpr (fun h1 h2 => hm (Or.inl ⟨Decidable.not_not.mp h1, h2⟩)))))) ⟨by decide, by decide⟩
    · refine v_ic_gt_f (t := 14) rfl rfl ⟨ha1.1, (Int.not_lt.mp h_7), by decide⟩ (q_iconst rfl (q_goto (t := 15) rfl rfl (v_zret rfl rfl (by decide) (bk_inl (q_iconst rfl (q_iconst rfl (v_cv rfl rfl rfl rfl (Nat.le_of_ble_eq_true rfl) ⟨⟨rfl, rfl⟩, Nat.le_of_ble_eq_true rfl, rfl⟩ (Nat.le_of_ble_eq_true rfl) (Nat.le_of_ble_eq_true rfl) ?_)))))))
      refine q_iload_n rfl rfl (v_if_ne_t (t := 26) rfl rfl (by decide) (q_aload_n rfl rfl (v_gi (z := 0) (v := 0) rfl rfl rfl (Nat.le_of_ble_eq_true rfl) rfl rfl (up_e rfl) (v_if_ne_f (t := 37) rfl rfl (by decide) (q_iconst rfl (q_goto (t := 38) rfl rfl (v_zret rfl rfl (by decide) ?_)))))))
      refine bk_inl (v_if_ne_t (t := 23) rfl rfl (by decide) (q_aload_n rfl rfl ?_))
      have hI_13 := iw_41_0 (v := 0) hI ⟨by decide, by decide⟩
      refine v_cv rfl rfl rfl rfl (Nat.le_of_ble_eq_true rfl) ⟨⟨rfl, rfl⟩, Nat.le_of_ble_eq_true rfl, rfl⟩ (Nat.le_of_ble_eq_true rfl) (Nat.le_of_ble_eq_true rfl) (s_186 hI_13 (fun c_14 hI_15 hF_16 => (bk_inl (q_iload_n rfl rfl (q_iconst rfl ?_)))))
      by_cases h_17 : a1 ≥ 4
      · refine v_ic_ge_t (t := 72) rfl rfl ⟨by decide, h_17, ha1.2⟩ (q_iload_n rfl rfl (v_bip rfl (by decide) ?_))
        by_cases h_18 : a1 ≥ 8
        · refine v_ic_ge_t (t := 119) rfl rfl ⟨by decide, h_18, ha1.2⟩ (q_iload_n rfl rfl (v_bip rfl (by decide) ?_))
          by_cases h_19 : a1 ≥ 10
          · refine v_ic_ge_t (t := 143) rfl rfl ⟨by decide, h_19, ha1.2⟩ (q_iload_n rfl rfl (v_bip rfl (by decide) ?_))
            by_cases h_20 : a1 ≠ 10
            · refine v_ic_ne_t (t := 156) rfl rfl ⟨h_20, ⟨ha1.1, ha1.2⟩, by decide, by decide⟩ (q_iload_n rfl rfl (v_bip rfl (by decide) ?_))
              by_cases h_21 : a1 ≠ 11
              · refine v_ic_ne_t (t := 169) rfl rfl ⟨h_21, ⟨ha1.1, ha1.2⟩, by decide, by decide⟩ (q_aload_n rfl rfl ?_)
                have h_22 := ir_41_48 hI
                have kn_23 : Hid (c_14 41 48 = c 41 48) := (hF_16 41 48 (fun h => absurd h (nn rfl))).trans (up_n (by decide))
                refine v_gi (z := 48) (v := c 41 48) rfl rfl rfl (Nat.le_of_ble_eq_true rfl) rfl rfl (hid kn_23) (q_iret rfl rfl ?_)
                exact K c_14 (c 41 48) hI_15 (fun a j hm => (hF_16 a j (fun h => hm (Or.inr (Or.inr h)))).trans (up_b (Decidable.or_iff_not_imp_left.mpr (fun h1 h2 => hm (Or.inl ⟨Decidable.not_not.mp h1, h2⟩))))) ⟨by first | exact q_cc1935a2a h_22 | (clear ha1 h_1 h_7 h_17 h_18 h_19 h_20 h_21; omega) | omega, by first | exact q_4e52e4576 h_22 | (clear ha1 h_1 h_7 h_17 h_18 h_19 h_20 h_21; omega) | omega⟩
              · refine v_ic_ne_f (t := 169) rfl rfl (Decidable.not_not.mp h_21) (q_aload_n rfl rfl ?_)
                have h_24 := ir_41_47 hI
                have kn_25 : Hid (c_14 41 47 = c 41 47) := (hF_16 41 47 (fun h => absurd h (nn rfl))).trans (up_n (by decide))
                refine v_gi (z := 47) (v := c 41 47) rfl rfl rfl (Nat.le_of_ble_eq_true rfl) rfl rfl (hid kn_25) (q_goto (t := 173) rfl rfl (q_iret rfl rfl ?_))
                exact K c_14 (c 41 47) hI_15 (fun a j hm => (hF_16 a j (fun h => hm (Or.inr (Or.inr h)))).trans (up_b (Decidable.or_iff_not_imp_left.mpr (fun h1 h2 => hm (Or.inl ⟨Decidable.not_not.mp h1, h2⟩))))) ⟨by first | exact q_ad61fcb20 h_24 | (clear ha1 h_1 h_7 h_17 h_18 h_19 h_21 h_20; omega) | omega, by first | exact q_68855c780 h_24 | (clear ha1 h_1 h_7 h_17 h_18 h_19 h_21 h_20; omega) | omega⟩
            · refine v_ic_ne_f (t := 156) rfl rfl (Decidable.not_not.mp h_20) (q_aload_n rfl rfl ?_)
              have h_26 := ir_41_36 hI
              have kn_27 : Hid (c_14 41 36 = c 41 36) := (hF_16 41 36 (fun h => absurd h (nn rfl))).trans (up_n (by decide))
              refine v_gi (z := 36) (v := c 41 36) rfl rfl rfl (Nat.le_of_ble_eq_true rfl) rfl rfl (hid kn_27) (q_goto (t := 173) rfl rfl (q_iret rfl rfl ?_))
              exact K c_14 (c 41 36) hI_15 (fun a j hm => (hF_16 a j (fun h => hm (Or.inr (Or.inr h)))).trans (up_b (Decidable.or_iff_not_imp_left.mpr (fun h1 h2 => hm (Or.inl ⟨Decidable.not_not.mp h1, h2⟩))))) ⟨by first | exact q_cc1935a2a h_26 | omega, by first | exact q_4e52e4576 h_26 | omega⟩
          · refine v_ic_ge_f (t := 143) rfl rfl ⟨ha1.1, (Int.not_le.mp h_19), by decide⟩ (q_iload_n rfl rfl (v_bip rfl (by decide) ?_))
            by_cases h_28 : a1 ≠ 8
            · refine v_ic_ne_t (t := 138) rfl rfl ⟨h_28, ⟨ha1.1, ha1.2⟩, by decide, by decide⟩ (q_aload_n rfl rfl (v_cv rfl rfl rfl rfl (Nat.le_of_ble_eq_true rfl) ⟨⟨rfl, rfl⟩, Nat.le_of_ble_eq_true rfl, rfl⟩ (Nat.le_of_ble_eq_true rfl) (Nat.le_of_ble_eq_true rfl) (s_210 hI_15 (fun y_29 hy_29 => (bk_inl (q_iret rfl rfl ?_))))))
              exact K c_14 y_29 hI_15 (fun a j hm => (hF_16 a j (fun h => hm (Or.inr (Or.inr h)))).trans (up_b (Decidable.or_iff_not_imp_left.mpr (fun h1 h2 => hm (Or.inl ⟨Decidable.not_not.mp h1, h2⟩))))) hy_29
            · refine v_ic_ne_f (t := 138) rfl rfl (Decidable.not_not.mp h_28) (q_aload_n rfl rfl (v_cv rfl rfl rfl rfl (Nat.le_of_ble_eq_true rfl) ⟨⟨rfl, rfl⟩, Nat.le_of_ble_eq_true rfl, rfl⟩ (Nat.le_of_ble_eq_true rfl) (Nat.le_of_ble_eq_true rfl) (s_209 hI_15 (fun y_30 hy_30 => (bk_inl (q_goto (t := 142) rfl rfl (q_iret rfl rfl ?_)))))))
              exact K c_14 y_30 hI_15 (fun a j hm => (hF_16 a j (fun h => hm (Or.inr (Or.inr h)))).trans (up_b (Decidable.or_iff_not_imp_left.mpr (fun h1 h2 => hm (Or.inl ⟨Decidable.not_not.mp h1, h2⟩))))) hy_30
        · refine v_ic_ge_f (t := 119) rfl rfl ⟨ha1.1, (Int.not_le.mp h_18), by decide⟩ (q_iload_n rfl rfl (q_iconst rfl ?_))
          by_cases h_31 : a1 ≠ 5
          · refine v_ic_ne_t (t := 90) rfl rfl ⟨h_31, ⟨ha1.1, ha1.2⟩, by decide, by decide⟩ (q_aload_n rfl rfl (v_gr (t := 59) rfl rfl rfl (Nat.le_of_ble_eq_true rfl) rfl (q_iload_n rfl rfl (q_iconst rfl ?_))))
            by_cases h_32 : a1 ≠ 4
            · refine v_ic_ne_t (t := 104) rfl rfl ⟨h_32, ⟨ha1.1, ha1.2⟩, by decide, by decide⟩ (q_iload_n rfl rfl (v_bip rfl (by decide) ?_))
              by_cases h_33 : a1 ≠ 6
              · refine v_ic_ne_t (t := 115) rfl rfl ⟨h_33, ⟨ha1.1, ha1.2⟩, by decide, by decide⟩ (v_bip rfl (by decide) ?_)
                have h_34 := ir_59 hI_15 36
                refine v_ia (v := c_14 59 36) rfl rfl (by decide) (by decide) (by decide) rfl (q_iret rfl rfl ?_)
                exact K c_14 (c_14 59 36) hI_15 (fun a j hm => (hF_16 a j (fun h => hm (Or.inr (Or.inr h)))).trans (up_b (Decidable.or_iff_not_imp_left.mpr (fun h1 h2 => hm (Or.inl ⟨Decidable.not_not.mp h1, h2⟩))))) h_34
              · refine v_ic_ne_f (t := 115) rfl rfl (Decidable.not_not.mp h_33) (v_bip rfl (by decide) (q_goto (t := 117) rfl rfl ?_))
                have h_35 := ir_59 hI_15 35
                refine v_ia (v := c_14 59 35) rfl rfl (by decide) (by decide) (by decide) rfl (q_iret rfl rfl ?_)
                exact K c_14 (c_14 59 35) hI_15 (fun a j hm => (hF_16 a j (fun h => hm (Or.inr (Or.inr h)))).trans (up_b (Decidable.or_iff_not_imp_left.mpr (fun h1 h2 => hm (Or.inl ⟨Decidable.not_not.mp h1, h2⟩))))) h_35
            · refine v_ic_ne_f (t := 104) rfl rfl (Decidable.not_not.mp h_32) (v_bip rfl (by decide) (q_goto (t := 117) rfl rfl ?_))
              have h_36 := ir_59 hI_15 34
              refine v_ia (v := c_14 59 34) rfl rfl (by decide) (by decide) (by decide) rfl (q_iret rfl rfl ?_)
              exact K c_14 (c_14 59 34) hI_15 (fun a j hm => (hF_16 a j (fun h => hm (Or.inr (Or.inr h)))).trans (up_b (Decidable.or_iff_not_imp_left.mpr (fun h1 h2 => hm (Or.inl ⟨Decidable.not_not.mp h1, h2⟩))))) h_36
          · refine v_ic_ne_f (t := 90) rfl rfl (Decidable.not_not.mp h_31) (q_aload_n rfl rfl (v_cv rfl rfl rfl rfl (Nat.le_of_ble_eq_true rfl) ⟨⟨rfl, rfl⟩, Nat.le_of_ble_eq_true rfl, rfl⟩ (Nat.le_of_ble_eq_true rfl) (Nat.le_of_ble_eq_true rfl) (s_203 hI_15 (fun y_37 hy_37 => (bk_inl (q_goto (t := 118) rfl rfl (q_iret rfl rfl ?_)))))))
            exact K c_14 y_37 hI_15 (fun a j hm => (hF_16 a j (fun h => hm (Or.inr (Or.inr h)))).trans (up_b (Decidable.or_iff_not_imp_left.mpr (fun h1 h2 => hm (Or.inl ⟨Decidable.not_not.mp h1, h2⟩))))) hy_37
      · refine v_ic_ge_f (t := 72) rfl rfl ⟨ha1.1, (Int.not_le.mp h_17), by decide⟩ (q_iload_n rfl rfl ?_)
        by_cases h_38 : a1 ≠ 0
        · refine v_if_ne_t (t := 43) rfl rfl ⟨h_38, ⟨ha1.1, ha1.2⟩, by decide, by decide⟩ (q_iload_n rfl rfl (q_iconst rfl ?_))
          by_cases h_39 : a1 ≠ 1
          · refine v_ic_ne_t (t := 55) rfl rfl ⟨h_39, ⟨ha1.1, ha1.2⟩, by decide, by decide⟩ (q_iload_n rfl rfl (q_iconst rfl ?_))
            by_cases h_40 : a1 ≠ 2
            · refine v_ic_ne_t (t := 67) rfl rfl ⟨h_40, ⟨ha1.1, ha1.2⟩, by decide, by decide⟩ (q_aload_n rfl rfl ?_)
              have h_41 := ir_41_23 hI
              have kn_42 : Hid (c_14 41 23 = c 41 23) := (hF_16 41 23 (fun h => absurd h (nn rfl))).trans (up_n (by decide))
              refine v_gi (z := 23) (v := c 41 23) rfl rfl rfl (Nat.le_of_ble_eq_true rfl) rfl rfl (hid kn_42) (q_iret rfl rfl ?_)
              exact K c_14 (c 41 23) hI_15 (fun a j hm => (hF_16 a j (fun h => hm (Or.inr (Or.inr h)))).trans (up_b (Decidable.or_iff_not_imp_left.mpr (fun h1 h2 => hm (Or.inl ⟨Decidable.not_not.mp h1, h2⟩))))) ⟨by first | exact q_fe18d6d95 h_41 | (clear ha1 h_1 h_7 h_17 h_38 h_39 h_40; omega) | omega, by first | exact q_5d4e5294a h_41 | (clear ha1 h_1 h_7 h_17 h_38 h_39 h_40; omega) | omega⟩
            · refine v_ic_ne_f (t := 67) rfl rfl (Decidable.not_not.mp h_40) (q_aload_n rfl rfl ?_)
              have h_43 := ir_41_22 hI
              have kn_44 : Hid (c_14 41 22 = c 41 22) := (hF_16 41 22 (fun h => absurd h (nn rfl))).trans (up_n (by decide))
              refine v_gi (z := 22) (v := c 41 22) rfl rfl rfl (Nat.le_of_ble_eq_true rfl) rfl rfl (hid kn_44) (q_goto (t := 71) rfl rfl (q_iret rfl rfl ?_))
              exact K c_14 (c 41 22) hI_15 (fun a j hm => (hF_16 a j (fun h => hm (Or.inr (Or.inr h)))).trans (up_b (Decidable.or_iff_not_imp_left.mpr (fun h1 h2 => hm (Or.inl ⟨Decidable.not_not.mp h1, h2⟩))))) ⟨by first | exact q_0bfe68f8e h_43 | (clear ha1 h_1 h_7 h_17 h_40 h_38 h_39; omega) | omega, by first | exact q_82d4f69ff h_43 | (clear ha1 h_1 h_7 h_17 h_40 h_38 h_39; omega) | omega⟩
          · refine v_ic_ne_f (t := 55) rfl rfl (Decidable.not_not.mp h_39) (q_aload_n rfl rfl ?_)
            have h_45 := ir_41_21 hI
            have kn_46 : Hid (c_14 41 21 = c 41 21) := (hF_16 41 21 (fun h => absurd h (nn rfl))).trans (up_n (by decide))
            refine v_gi (z := 21) (v := c 41 21) rfl rfl rfl (Nat.le_of_ble_eq_true rfl) rfl rfl (hid kn_46) (q_goto (t := 71) rfl rfl (q_iret rfl rfl ?_))
            exact K c_14 (c 41 21) hI_15 (fun a j hm => (hF_16 a j (fun h => hm (Or.inr (Or.inr h)))).trans (up_b (Decidable.or_iff_not_imp_left.mpr (fun h1 h2 => hm (Or.inl ⟨Decidable.not_not.mp h1, h2⟩))))) ⟨by first | exact q_0bfe68f8e h_45 | (clear ha1 h_1 h_7 h_17 h_39 h_38; omega) | omega, by first | exact q_82d4f69ff h_45 | (clear ha1 h_1 h_7 h_17 h_39 h_38; omega) | omega⟩
        · refine v_if_ne_f (t := 43) rfl rfl (Decidable.not_not.mp h_38) (q_aload_n rfl rfl ?_)
          have h_47 := ir_41_20 hI
          have kn_48 : Hid (c_14 41 20 = c 41 20) := (hF_16 41 20 (fun h => absurd h (nn rfl))).trans (up_n (by decide))
          refine v_gi (z := 20) (v := c 41 20) rfl rfl rfl (Nat.le_of_ble_eq_true rfl) rfl rfl (hid kn_48) (q_goto (t := 71) rfl rfl (q_iret rfl rfl ?_))
          exact K c_14 (c 41 20) hI_15 (fun a j hm => (hF_16 a j (fun h => hm (Or.inr (Or.inr h)))).trans (up_b (Decidable.or_iff_not_imp_left.mpr (fun h1 h2 => hm (Or.inl ⟨Decidable.not_not.mp h1, h2⟩))))) ⟨by first | exact q_730ab5169 h_47 | omega, by first | exact q_b289b7db2 h_47 | omega⟩

set_option maxRecDepth 100000 in
set_option maxHeartbeats 4000000 in
theorem s_213 {sc : List Int32} {d P Q : Nat} {c : ME} {a1 : Int} {a2 : Int} {Z : AR → Prop} (hI : Iv 0 (-1) P Q c) (ha1 : (-2147483648) ≤ a1 ∧ a1 ≤ 2147483647) (ha2 : (-2147483648) ≤ a2 ∧ a2 ≤ 2147483647) (K : ∀ (c2 : ME) (y : Int), Iv 0 (-1) P Q c2 → (∀ (a : Nat) (j : Int), ¬ ((a = 41 ∧ j = 0) ∨ a = 42 ∨ a = 59) → c2 a j = c a j) → (-2147483648) ≤ y ∧ y ≤ 2147483647 → Z (.inl (some (vi y)), Wd P Q P P c2, 0, 0)) : Wp sc (d + 9) 213 0 [(0, .ref 41), (1, vi a1), (2, vi a2)] [] (Wd P Q P P c) 0 0 Z := by
  have hP := iv_P hI
  have hQ := iv_Q hI
  refine q_aload_n rfl rfl (q_iconst rfl (v_pi (z := 0) rfl rfl rfl (Nat.le_of_ble_eq_true rfl) rfl rfl rfl (by decide) (q_aload_n rfl rfl (q_iload_n rfl rfl (q_aload_n rfl rfl ?_)))))
  have h_1 := ir_41_20 hI
  refine v_gi (z := 20) (v := c 41 20) rfl rfl rfl (Nat.le_of_ble_eq_true rfl) rfl rfl (up_n (by decide)) (v_cv rfl rfl rfl rfl (Nat.le_of_ble_eq_true rfl) ⟨⟨rfl, rfl⟩, Nat.le_of_ble_eq_true rfl, rfl⟩ (Nat.le_of_ble_eq_true rfl) (Nat.le_of_ble_eq_true rfl) (q_aload_n rfl rfl (q_iload_n rfl rfl (q_iconst rfl (q_iload_n rfl rfl (q_iconst rfl (v_isub (v := c 41 20 - 1) rfl rfl ?_)))))))
  refine q_call rfl rfl rfl rfl (q_iload_n rfl rfl (q_iload_n rfl rfl ?_))
  by_cases h_2 : a1 < 0
  · refine v_ic_lt_t (t := 14) rfl rfl ⟨ha1.1, h_2, by decide⟩ (q_iconst rfl (v_zret rfl rfl (by decide) (bk_inl (q_iconst rfl (q_iconst rfl (v_cv rfl rfl rfl rfl (Nat.le_of_ble_eq_true rfl) ⟨⟨rfl, rfl⟩, Nat.le_of_ble_eq_true rfl, rfl⟩ (Nat.le_of_ble_eq_true rfl) (Nat.le_of_ble_eq_true rfl) (q_iload_n rfl rfl ?_)))))))
    refine v_if_ne_f (t := 26) rfl rfl (by decide) (q_aload_n rfl rfl (v_gi (z := 0) (v := 0) rfl rfl rfl (Nat.le_of_ble_eq_true rfl) rfl rfl (up_e rfl) (v_if_ne_f (t := 26) rfl rfl (by decide) (q_aload_n rfl rfl (q_iload_n rfl rfl (v_pi (z := 0) rfl rfl rfl (Nat.le_of_ble_eq_true rfl) rfl rfl rfl (by decide) (q_aload_n rfl rfl ?_)))))))
    refine v_gr (t := 42) rfl rfl rfl (Nat.le_of_ble_eq_true rfl) rfl (q_iload_n rfl rfl (q_dup2 rfl ⟨rfl, rfl⟩ ?_))
    have h_3 := ir_42 hI 0
    refine v_ia (v := c 42 0) rfl rfl (by decide) (by decide) (by decide) ((up_c (nn rfl)).trans (up_c (nn rfl))) (q_iconst rfl (v_iadd (v := c 42 0 + 1) rfl rfl (v_nrm (fun y_4 hy_4 => (v_is rfl rfl (by decide) (by decide) (by decide) (q_aload_n rfl rfl (v_gi (z := 0) (v := 1) rfl rfl rfl (Nat.le_of_ble_eq_true rfl) rfl rfl ((up_c (nn rfl)).trans (up_e rfl)) (v_if_ne_t (t := 37) rfl rfl (by decide) ?_))))))))
    refine q_iconst rfl (v_zret rfl rfl (by decide) (bk_inl (v_zret rfl rfl (by decide) (bk_inl (v_if_eq_t (t := 33) rfl rfl (by decide) (q_iconst rfl (q_iret rfl rfl ?_)))))))
    have hI_5 := iw_41_0 (v := 0) hI ⟨by decide, by decide⟩
    have hI_6 := iw_41_0 (v := 1) hI_5 ⟨by decide, by decide⟩
    have hI_7 := iw_42 (j := 0) (v := y_4) hI_6 ⟨hy_4.1, hy_4.2⟩
    exact K (up (up (up c 41 0 0) 41 0 1) 42 0 y_4) 0 hI_7 (fun a j hm => (up_b (Decidable.or_iff_not_imp_left.mpr (fun h1 h2 => hm (Or.inr (Or.inl (Decidable.not_not.mp h1)))))).trans ((up_b (Decidable.or_iff_not_imp_left.mpr (fun h1 h2 => hm (Or.inl ⟨Decidable.not_not.mp h1, h2⟩)))).trans (up_b (Decidable.or_iff_not_imp_left.mpr (fun h1 h2 => hm (Or.inl ⟨Decidable.not_not.mp h1, h2⟩)))))) ⟨by decide, by decide⟩
  · refine v_ic_lt_f (t := 14) rfl rfl ⟨by decide, (Int.not_lt.mp h_2), ha1.2⟩ (q_iload_n rfl rfl (q_iload_n rfl rfl ?_))
    by_cases h_8 : a1 > c 41 20 - 1
    · refine v_ic_gt_t (t := 14) rfl rfl ⟨by first | exact rgm_l h_1.1 (by decide) | omega, h_8, ha1.2⟩ (q_iconst rfl (v_zret rfl rfl (by decide) (bk_inl (q_iconst rfl (q_iconst rfl (v_cv rfl rfl rfl rfl (Nat.le_of_ble_eq_true rfl) ⟨⟨rfl, rfl⟩, Nat.le_of_ble_eq_true rfl, rfl⟩ (Nat.le_of_ble_eq_true rfl) (Nat.le_of_ble_eq_true rfl) (q_iload_n rfl rfl ?_)))))))
      refine v_if_ne_f (t := 26) rfl rfl (by decide) (q_aload_n rfl rfl (v_gi (z := 0) (v := 0) rfl rfl rfl (Nat.le_of_ble_eq_true rfl) rfl rfl (up_e rfl) (v_if_ne_f (t := 26) rfl rfl (by decide) (q_aload_n rfl rfl (q_iload_n rfl rfl (v_pi (z := 0) rfl rfl rfl (Nat.le_of_ble_eq_true rfl) rfl rfl rfl (by decide) (q_aload_n rfl rfl ?_)))))))
      refine v_gr (t := 42) rfl rfl rfl (Nat.le_of_ble_eq_true rfl) rfl (q_iload_n rfl rfl (q_dup2 rfl ⟨rfl, rfl⟩ ?_))
      have h_9 := ir_42 hI 0
      refine v_ia (v := c 42 0) rfl rfl (by decide) (by decide) (by decide) ((up_c (nn rfl)).trans (up_c (nn rfl))) (q_iconst rfl (v_iadd (v := c 42 0 + 1) rfl rfl (v_nrm (fun y_10 hy_10 => (v_is rfl rfl (by decide) (by decide) (by decide) (q_aload_n rfl rfl (v_gi (z := 0) (v := 1) rfl rfl rfl (Nat.le_of_ble_eq_true rfl) rfl rfl ((up_c (nn rfl)).trans (up_e rfl)) (v_if_ne_t (t := 37) rfl rfl (by decide) ?_))))))))
      refine q_iconst rfl (v_zret rfl rfl (by decide) (bk_inl (v_zret rfl rfl (by decide) (bk_inl (v_if_eq_t (t := 33) rfl rfl (by decide) (q_iconst rfl (q_iret rfl rfl ?_)))))))
      have hI_11 := iw_41_0 (v := 0) hI ⟨by decide, by decide⟩
      have hI_12 := iw_41_0 (v := 1) hI_11 ⟨by decide, by decide⟩
      have hI_13 := iw_42 (j := 0) (v := y_10) hI_12 ⟨hy_10.1, hy_10.2⟩
      exact K (up (up (up c 41 0 0) 41 0 1) 42 0 y_10) 0 hI_13 (fun a j hm => (up_b (Decidable.or_iff_not_imp_left.mpr (fun h1 h2 => hm (Or.inr (Or.inl (Decidable.not_not.mp h1)))))).trans ((up_b (Decidable.or_iff_not_imp_left.mpr (fun h1 h2 => hm (Or.inl ⟨Decidable.not_not.mp h1, h2⟩)))).trans (up_b (Decidable.or_iff_not_imp_left.mpr (fun h1 h2 => hm (Or.inl ⟨Decidable.not_not.mp h1, h2⟩)))))) ⟨by decide, by decide⟩
    · refine v_ic_gt_f (t := 14) rfl rfl ⟨ha1.1, (Int.not_lt.mp h_8), by first | exact rgm_h h_1.2 (by decide) | omega⟩ (q_iconst rfl (q_goto (t := 15) rfl rfl (v_zret rfl rfl (by decide) (bk_inl (q_iconst rfl (q_iconst rfl (v_cv rfl rfl rfl rfl (Nat.le_of_ble_eq_true rfl) ⟨⟨rfl, rfl⟩, Nat.le_of_ble_eq_true rfl, rfl⟩ (Nat.le_of_ble_eq_true rfl) (Nat.le_of_ble_eq_true rfl) ?_)))))))
      refine q_iload_n rfl rfl (v_if_ne_t (t := 26) rfl rfl (by decide) (q_aload_n rfl rfl (v_gi (z := 0) (v := 0) rfl rfl rfl (Nat.le_of_ble_eq_true rfl) rfl rfl (up_e rfl) (v_if_ne_f (t := 37) rfl rfl (by decide) (q_iconst rfl (q_goto (t := 38) rfl rfl (v_zret rfl rfl (by decide) ?_)))))))
      refine bk_inl (v_zret rfl rfl (by decide) (bk_inl (v_if_eq_f (t := 33) rfl rfl (by decide) (q_aload_n rfl rfl (q_iload_n rfl rfl (q_iconst rfl (v_bip rfl (by decide) ?_)))))))
      refine q_call rfl rfl rfl rfl (q_iload_n rfl rfl (q_iload_n rfl rfl ?_))
      by_cases h_14 : a2 < 0
      · refine v_ic_lt_t (t := 14) rfl rfl ⟨ha2.1, h_14, by decide⟩ (q_iconst rfl (v_zret rfl rfl (by decide) (bk_inl (q_iconst rfl (q_iconst rfl (v_cv rfl rfl rfl rfl (Nat.le_of_ble_eq_true rfl) ⟨⟨rfl, rfl⟩, Nat.le_of_ble_eq_true rfl, rfl⟩ (Nat.le_of_ble_eq_true rfl) (Nat.le_of_ble_eq_true rfl) (q_iload_n rfl rfl ?_)))))))
        refine v_if_ne_f (t := 26) rfl rfl (by decide) (q_aload_n rfl rfl (v_gi (z := 0) (v := 0) rfl rfl rfl (Nat.le_of_ble_eq_true rfl) rfl rfl (up_e rfl) (v_if_ne_f (t := 26) rfl rfl (by decide) (q_aload_n rfl rfl (q_iload_n rfl rfl (v_pi (z := 0) rfl rfl rfl (Nat.le_of_ble_eq_true rfl) rfl rfl rfl (by decide) (q_aload_n rfl rfl ?_)))))))
        refine v_gr (t := 42) rfl rfl rfl (Nat.le_of_ble_eq_true rfl) rfl (q_iload_n rfl rfl (q_dup2 rfl ⟨rfl, rfl⟩ ?_))
        have h_15 := ir_42 hI 1
        refine v_ia (v := c 42 1) rfl rfl (by decide) (by decide) (by decide) ((up_c (nn rfl)).trans (up_c (nn rfl))) (q_iconst rfl (v_iadd (v := c 42 1 + 1) rfl rfl (v_nrm (fun y_16 hy_16 => (v_is rfl rfl (by decide) (by decide) (by decide) (q_aload_n rfl rfl (v_gi (z := 0) (v := 2) rfl rfl rfl (Nat.le_of_ble_eq_true rfl) rfl rfl ((up_c (nn rfl)).trans (up_e rfl)) (v_if_ne_t (t := 37) rfl rfl (by decide) ?_))))))))
        refine q_iconst rfl (v_zret rfl rfl (by decide) (bk_inl (v_if_ne_f (t := 35) rfl rfl (by decide) (q_iconst rfl (q_iret rfl rfl ?_)))))
        have hI_17 := iw_41_0 (v := 0) hI ⟨by decide, by decide⟩
        have hI_18 := iw_41_0 (v := 2) hI_17 ⟨by decide, by decide⟩
        have hI_19 := iw_42 (j := 1) (v := y_16) hI_18 ⟨hy_16.1, hy_16.2⟩
        exact K (up (up (up c 41 0 0) 41 0 2) 42 1 y_16) 0 hI_19 (fun a j hm => (up_b (Decidable.or_iff_not_imp_left.mpr (fun h1 h2 => hm (Or.inr (Or.inl (Decidable.not_not.mp h1)))))).trans ((up_b (Decidable.or_iff_not_imp_left.mpr (fun h1 h2 => hm (Or.inl ⟨Decidable.not_not.mp h1, h2⟩)))).trans (up_b (Decidable.or_iff_not_imp_left.mpr (fun h1 h2 => hm (Or.inl ⟨Decidable.not_not.mp h1, h2⟩)))))) ⟨by decide, by decide⟩
      · refine v_ic_lt_f (t := 14) rfl rfl ⟨by decide, (Int.not_lt.mp h_14), ha2.2⟩ (q_iload_n rfl rfl (q_iload_n rfl rfl ?_))
        by_cases h_20 : a2 > 6
        · refine v_ic_gt_t (t := 14) rfl rfl ⟨by decide, h_20, ha2.2⟩ (q_iconst rfl (v_zret rfl rfl (by decide) (bk_inl (q_iconst rfl (q_iconst rfl (v_cv rfl rfl rfl rfl (Nat.le_of_ble_eq_true rfl) ⟨⟨rfl, rfl⟩, Nat.le_of_ble_eq_true rfl, rfl⟩ (Nat.le_of_ble_eq_true rfl) (Nat.le_of_ble_eq_true rfl) (q_iload_n rfl rfl ?_)))))))
          refine v_if_ne_f (t := 26) rfl rfl (by decide) (q_aload_n rfl rfl (v_gi (z := 0) (v := 0) rfl rfl rfl (Nat.le_of_ble_eq_true rfl) rfl rfl (up_e rfl) (v_if_ne_f (t := 26) rfl rfl (by decide) (q_aload_n rfl rfl (q_iload_n rfl rfl (v_pi (z := 0) rfl rfl rfl (Nat.le_of_ble_eq_true rfl) rfl rfl rfl (by decide) (q_aload_n rfl rfl ?_)))))))
          refine v_gr (t := 42) rfl rfl rfl (Nat.le_of_ble_eq_true rfl) rfl (q_iload_n rfl rfl (q_dup2 rfl ⟨rfl, rfl⟩ ?_))
          have h_21 := ir_42 hI 1
          refine v_ia (v := c 42 1) rfl rfl (by decide) (by decide) (by decide) ((up_c (nn rfl)).trans (up_c (nn rfl))) (q_iconst rfl (v_iadd (v := c 42 1 + 1) rfl rfl (v_nrm (fun y_22 hy_22 => (v_is rfl rfl (by decide) (by decide) (by decide) (q_aload_n rfl rfl (v_gi (z := 0) (v := 2) rfl rfl rfl (Nat.le_of_ble_eq_true rfl) rfl rfl ((up_c (nn rfl)).trans (up_e rfl)) (v_if_ne_t (t := 37) rfl rfl (by decide) ?_))))))))
          refine q_iconst rfl (v_zret rfl rfl (by decide) (bk_inl (v_if_ne_f (t := 35) rfl rfl (by decide) (q_iconst rfl (q_iret rfl rfl ?_)))))
          have hI_23 := iw_41_0 (v := 0) hI ⟨by decide, by decide⟩
          have hI_24 := iw_41_0 (v := 2) hI_23 ⟨by decide, by decide⟩
          have hI_25 := iw_42 (j := 1) (v := y_22) hI_24 ⟨hy_22.1, hy_22.2⟩
          exact K (up (up (up c 41 0 0) 41 0 2) 42 1 y_22) 0 hI_25 (fun a j hm => (up_b (Decidable.or_iff_not_imp_left.mpr (fun h1 h2 => hm (Or.inr (Or.inl (Decidable.not_not.mp h1)))))).trans ((up_b (Decidable.or_iff_not_imp_left.mpr (fun h1 h2 => hm (Or.inl ⟨Decidable.not_not.mp h1, h2⟩)))).trans (up_b (Decidable.or_iff_not_imp_left.mpr (fun h1 h2 => hm (Or.inl ⟨Decidable.not_not.mp h1, h2⟩)))))) ⟨by decide, by decide⟩
        · refine v_ic_gt_f (t := 14) rfl rfl ⟨ha2.1, (Int.not_lt.mp h_20), by decide⟩ (q_iconst rfl (q_goto (t := 15) rfl rfl (v_zret rfl rfl (by decide) (bk_inl (q_iconst rfl (q_iconst rfl (v_cv rfl rfl rfl rfl (Nat.le_of_ble_eq_true rfl) ⟨⟨rfl, rfl⟩, Nat.le_of_ble_eq_true rfl, rfl⟩ (Nat.le_of_ble_eq_true rfl) (Nat.le_of_ble_eq_true rfl) ?_)))))))
          refine q_iload_n rfl rfl (v_if_ne_t (t := 26) rfl rfl (by decide) (q_aload_n rfl rfl (v_gi (z := 0) (v := 0) rfl rfl rfl (Nat.le_of_ble_eq_true rfl) rfl rfl (up_e rfl) (v_if_ne_f (t := 37) rfl rfl (by decide) (q_iconst rfl (q_goto (t := 38) rfl rfl (v_zret rfl rfl (by decide) ?_)))))))
          refine bk_inl (v_if_ne_t (t := 35) rfl rfl (by decide) (q_aload_n rfl rfl ?_))
          have hI_26 := iw_41_0 (v := 0) hI ⟨by decide, by decide⟩
          refine v_cv rfl rfl rfl rfl (Nat.le_of_ble_eq_true rfl) ⟨⟨rfl, rfl⟩, Nat.le_of_ble_eq_true rfl, rfl⟩ (Nat.le_of_ble_eq_true rfl) (Nat.le_of_ble_eq_true rfl) (s_186 hI_26 (fun c_27 hI_28 hF_29 => (bk_inl (q_iload_n rfl rfl (q_iconst rfl ?_)))))
          by_cases h_30 : a2 ≥ 4
          · refine v_ic_ge_t (t := 57) rfl rfl ⟨by decide, h_30, ha2.2⟩ (q_iload_n rfl rfl (q_iconst rfl ?_))
            by_cases h_31 : a2 ≠ 4
            · refine v_ic_ne_t (t := 70) rfl rfl ⟨h_31, ⟨ha2.1, ha2.2⟩, by decide, by decide⟩ (q_iload_n rfl rfl (q_iconst rfl ?_))
              by_cases h_32 : a2 ≠ 5
              · refine v_ic_ne_t (t := 87) rfl rfl ⟨h_32, ⟨ha2.1, ha2.2⟩, by decide, by decide⟩ (q_aload_n rfl rfl (q_iload_n rfl rfl (v_cv rfl rfl rfl rfl (Nat.le_of_ble_eq_true rfl) ⟨⟨rfl, rfl⟩, Nat.le_of_ble_eq_true rfl, rfl⟩ (Nat.le_of_ble_eq_true rfl) (Nat.le_of_ble_eq_true rfl) (s_204 (a1 := a1) hI_28 (show 0 ≤ a1 ∧ a1 ≤ 5 from ⟨by first | exact q_720657ba9 h_2 | (clear ha1 ha2 h_1 h_8 h_14 h_20 h_30 h_31 h_32; omega) | omega, by first | exact q_3a2e67ab0 h_1 h_8 | (clear ha1 ha2 h_2 h_14 h_20 h_30 h_31 h_32; omega) | omega⟩) (fun y_33 hy_33 => (bk_inl (q_iret rfl rfl ?_)))))))
                exact K c_27 y_33 hI_28 (fun a j hm => (hF_29 a j (fun h => hm (Or.inr (Or.inr h)))).trans (up_b (Decidable.or_iff_not_imp_left.mpr (fun h1 h2 => hm (Or.inl ⟨Decidable.not_not.mp h1, h2⟩))))) hy_33
              · refine v_ic_ne_f (t := 87) rfl rfl (Decidable.not_not.mp h_32) (q_aload_n rfl rfl (v_gr (t := 59) rfl rfl rfl (Nat.le_of_ble_eq_true rfl) rfl (v_bip rfl (by decide) (q_iload_n rfl rfl (v_iadd (v := a1 + 24) rfl (by first | (clear ha1 ha2 h_1 h_2 h_8 h_14 h_20 h_30 h_32 h_31; omega) | omega) ?_)))))
                have h_34 := ir_59 hI_28 (a1 + 24)
                refine v_ia (v := c_27 59 (a1 + 24)) rfl rfl (by decide) (by decide) ⟨by first | exact q_7e8f1d31c h_2 | (clear ha1 ha2 h_1 h_8 h_14 h_20 h_30 h_32 h_34 h_31; omega) | omega, by first | exact q_3aa97594e h_1 h_8 | (clear ha1 ha2 h_2 h_14 h_20 h_30 h_32 h_34 h_31; omega) | omega⟩ rfl (q_goto (t := 92) rfl rfl (q_iret rfl rfl ?_))
                exact K c_27 (c_27 59 (a1 + 24)) hI_28 (fun a j hm => (hF_29 a j (fun h => hm (Or.inr (Or.inr h)))).trans (up_b (Decidable.or_iff_not_imp_left.mpr (fun h1 h2 => hm (Or.inl ⟨Decidable.not_not.mp h1, h2⟩))))) h_34
            · refine v_ic_ne_f (t := 70) rfl rfl (Decidable.not_not.mp h_31) (q_aload_n rfl rfl (q_iload_n rfl rfl ?_))
              have h_35 := ir_59_g hI_28 (j := 4 * a1) (by first | exact q_b0d0e4535 h_1 h_8 | omega)
              have h_36 := ir_59_g hI_28 (j := 4 * a1 + 1) (by first | exact q_e3354e5e9 h_1 h_8 | omega)
              have h_37 := ir_59_g hI_28 (j := 4 * a1 + 2) (by first | exact q_0a5347bcd h_1 h_8 | omega)
              have h_38 := ir_59_g hI_28 (j := 4 * a1 + 3) (by first | exact q_9939b3b7f h_1 h_8 | omega)
              refine v_cv rfl rfl rfl rfl (Nat.le_of_ble_eq_true rfl) ⟨⟨rfl, rfl⟩, Nat.le_of_ble_eq_true rfl, rfl⟩ (Nat.le_of_ble_eq_true rfl) (Nat.le_of_ble_eq_true rfl) (s_187 (v1 := c_27 59 (4 * a1)) (v2 := c_27 59 (4 * a1 + 1)) (v3 := c_27 59 (4 * a1 + 2)) (v4 := c_27 59 (4 * a1 + 3)) (r := c_27 59 (4 * a1 + 1) + c_27 59 (4 * a1 + 2) + c_27 59 (4 * a1 + 3) + c_27 59 (4 * a1)) (a1 := a1) hI_28 (show 0 ≤ a1 ∧ a1 ≤ 5 from ⟨by first | exact q_720657ba9 h_2 | omega, by first | exact q_3a2e67ab0 h_1 h_8 | omega⟩) (rfl) (rfl) (rfl) (rfl) (by omega) (bk_inl (q_goto (t := 92) rfl rfl (q_iret rfl rfl ?_))))
              exact K c_27 (c_27 59 (4 * a1 + 1) + c_27 59 (4 * a1 + 2) + c_27 59 (4 * a1 + 3) + c_27 59 (4 * a1)) hI_28 (fun a j hm => (hF_29 a j (fun h => hm (Or.inr (Or.inr h)))).trans (up_b (Decidable.or_iff_not_imp_left.mpr (fun h1 h2 => hm (Or.inl ⟨Decidable.not_not.mp h1, h2⟩))))) ⟨by first | exact q_e052ef40e h_35 h_36 h_37 h_38 | omega, by first | exact q_db9ef1f4a h_35 h_36 h_37 h_38 | omega⟩
          · refine v_ic_ge_f (t := 57) rfl rfl ⟨ha2.1, (Int.not_le.mp h_30), by decide⟩ (q_aload_n rfl rfl (v_gr (t := 59) rfl rfl rfl (Nat.le_of_ble_eq_true rfl) rfl (q_iconst rfl (q_iload_n rfl rfl (v_imul (v := 4 * a1) rfl rfl (q_iload_n rfl rfl (v_iadd (v := 4 * a1 + a2) rfl rfl ?_)))))))
            have h_39 := ir_59_g hI_28 (j := 4 * a1 + a2) (by first | exact q_490e7f1d7 h_1 h_30 h_8 | omega)
            refine v_ia (v := c_27 59 (4 * a1 + a2)) rfl rfl (by decide) (by decide) ⟨by first | exact q_cc0c3eecc h_14 h_2 | omega, by first | exact q_6645f81e3 h_1 h_30 h_8 | omega⟩ rfl (q_goto (t := 92) rfl rfl (q_iret rfl rfl ?_))
            exact K c_27 (c_27 59 (4 * a1 + a2)) hI_28 (fun a j hm => (hF_29 a j (fun h => hm (Or.inr (Or.inr h)))).trans (up_b (Decidable.or_iff_not_imp_left.mpr (fun h1 h2 => hm (Or.inl ⟨Decidable.not_not.mp h1, h2⟩))))) ⟨(Int.le_trans (by decide) h_39.1), (Int.le_trans h_39.2 (by decide))⟩

set_option maxRecDepth 100000 in
set_option maxHeartbeats 4000000 in
theorem s_214 {sc : List Int32} {e : Int} {d u P Q : Nat} {c : ME} {a1 : Int} {a2 : Int} {Z : AR → Prop} (hI : Iv u e P Q c) (ha1 : (-2147483648) ≤ a1 ∧ a1 ≤ 2147483647) (ha2 : (-2147483648) ≤ a2 ∧ a2 ≤ 2147483647) (K : ∀ (c2 : ME) (y : Int), Iv u e P Q c2 → (∀ (a : Nat) (j : Int), ¬ ((a = 41 ∧ j = 0) ∨ a = 42) → c2 a j = c a j) → (-2147483648) ≤ y ∧ y ≤ 2147483647 → Z (.inl (some (vi y)), Wd P Q P P c2, 0, 0)) : Wp sc (d + 9) 214 0 [(0, .ref 41), (1, vi a1), (2, vi a2)] [] (Wd P Q P P c) 0 0 Z := by
  have hP := iv_P hI
  have hQ := iv_Q hI
  refine q_aload_n rfl rfl (q_iconst rfl (v_pi (z := 0) rfl rfl rfl (Nat.le_of_ble_eq_true rfl) rfl rfl rfl (by decide) (q_aload_n rfl rfl (q_iload_n rfl rfl (q_aload_n rfl rfl ?_)))))
  have h_1 := ir_41_21 hI
  refine v_gi (z := 21) (v := c 41 21) rfl rfl rfl (Nat.le_of_ble_eq_true rfl) rfl rfl (up_n (by decide)) (v_cv rfl rfl rfl rfl (Nat.le_of_ble_eq_true rfl) ⟨⟨rfl, rfl⟩, Nat.le_of_ble_eq_true rfl, rfl⟩ (Nat.le_of_ble_eq_true rfl) (Nat.le_of_ble_eq_true rfl) (q_aload_n rfl rfl (q_iload_n rfl rfl (q_iconst rfl (q_iload_n rfl rfl (q_iconst rfl (v_isub (v := c 41 21 - 1) rfl rfl ?_)))))))
  refine q_call rfl rfl rfl rfl (q_iload_n rfl rfl (q_iload_n rfl rfl ?_))
  by_cases h_2 : a1 < 0
  · refine v_ic_lt_t (t := 14) rfl rfl ⟨ha1.1, h_2, by decide⟩ (q_iconst rfl (v_zret rfl rfl (by decide) (bk_inl (q_iconst rfl (q_iconst rfl (v_cv rfl rfl rfl rfl (Nat.le_of_ble_eq_true rfl) ⟨⟨rfl, rfl⟩, Nat.le_of_ble_eq_true rfl, rfl⟩ (Nat.le_of_ble_eq_true rfl) (Nat.le_of_ble_eq_true rfl) (q_iload_n rfl rfl ?_)))))))
    refine v_if_ne_f (t := 26) rfl rfl (by decide) (q_aload_n rfl rfl (v_gi (z := 0) (v := 0) rfl rfl rfl (Nat.le_of_ble_eq_true rfl) rfl rfl (up_e rfl) (v_if_ne_f (t := 26) rfl rfl (by decide) (q_aload_n rfl rfl (q_iload_n rfl rfl (v_pi (z := 0) rfl rfl rfl (Nat.le_of_ble_eq_true rfl) rfl rfl rfl (by decide) (q_aload_n rfl rfl ?_)))))))
    refine v_gr (t := 42) rfl rfl rfl (Nat.le_of_ble_eq_true rfl) rfl (q_iload_n rfl rfl (q_dup2 rfl ⟨rfl, rfl⟩ ?_))
    have h_3 := ir_42 hI 0
    refine v_ia (v := c 42 0) rfl rfl (by decide) (by decide) (by decide) ((up_c (nn rfl)).trans (up_c (nn rfl))) (q_iconst rfl (v_iadd (v := c 42 0 + 1) rfl rfl (v_nrm (fun y_4 hy_4 => (v_is rfl rfl (by decide) (by decide) (by decide) (q_aload_n rfl rfl (v_gi (z := 0) (v := 1) rfl rfl rfl (Nat.le_of_ble_eq_true rfl) rfl rfl ((up_c (nn rfl)).trans (up_e rfl)) (v_if_ne_t (t := 37) rfl rfl (by decide) ?_))))))))
    refine q_iconst rfl (v_zret rfl rfl (by decide) (bk_inl (v_zret rfl rfl (by decide) (bk_inl (v_if_eq_t (t := 32) rfl rfl (by decide) (q_iconst rfl (q_iret rfl rfl ?_)))))))
    have hI_5 := iw_41_0 (v := 0) hI ⟨by decide, by decide⟩
    have hI_6 := iw_41_0 (v := 1) hI_5 ⟨by decide, by decide⟩
    have hI_7 := iw_42 (j := 0) (v := y_4) hI_6 ⟨hy_4.1, hy_4.2⟩
    exact K (up (up (up c 41 0 0) 41 0 1) 42 0 y_4) 0 hI_7 (fun a j hm => (up_b (Decidable.or_iff_not_imp_left.mpr (fun h1 h2 => hm (Or.inr (Decidable.not_not.mp h1))))).trans ((up_b (Decidable.or_iff_not_imp_left.mpr (fun h1 h2 => hm (Or.inl ⟨Decidable.not_not.mp h1, h2⟩)))).trans (up_b (Decidable.or_iff_not_imp_left.mpr (fun h1 h2 => hm (Or.inl ⟨Decidable.not_not.mp h1, h2⟩)))))) ⟨by decide, by decide⟩
  · refine v_ic_lt_f (t := 14) rfl rfl ⟨by decide, (Int.not_lt.mp h_2), ha1.2⟩ (q_iload_n rfl rfl (q_iload_n rfl rfl ?_))
    by_cases h_8 : a1 > c 41 21 - 1
    · refine v_ic_gt_t (t := 14) rfl rfl ⟨by first | exact rgm_l h_1.1 (by decide) | omega, h_8, ha1.2⟩ (q_iconst rfl (v_zret rfl rfl (by decide) (bk_inl (q_iconst rfl (q_iconst rfl (v_cv rfl rfl rfl rfl (Nat.le_of_ble_eq_true rfl) ⟨⟨rfl, rfl⟩, Nat.le_of_ble_eq_true rfl, rfl⟩ (Nat.le_of_ble_eq_true rfl) (Nat.le_of_ble_eq_true rfl) (q_iload_n rfl rfl ?_)))))))
      refine v_if_ne_f (t := 26) rfl rfl (by decide) (q_aload_n rfl rfl (v_gi (z := 0) (v := 0) rfl rfl rfl (Nat.le_of_ble_eq_true rfl) rfl rfl (up_e rfl) (v_if_ne_f (t := 26) rfl rfl (by decide) (q_aload_n rfl rfl (q_iload_n rfl rfl (v_pi (z := 0) rfl rfl rfl (Nat.le_of_ble_eq_true rfl) rfl rfl rfl (by decide) (q_aload_n rfl rfl ?_)))))))
      refine v_gr (t := 42) rfl rfl rfl (Nat.le_of_ble_eq_true rfl) rfl (q_iload_n rfl rfl (q_dup2 rfl ⟨rfl, rfl⟩ ?_))
      have h_9 := ir_42 hI 0
      refine v_ia (v := c 42 0) rfl rfl (by decide) (by decide) (by decide) ((up_c (nn rfl)).trans (up_c (nn rfl))) (q_iconst rfl (v_iadd (v := c 42 0 + 1) rfl rfl (v_nrm (fun y_10 hy_10 => (v_is rfl rfl (by decide) (by decide) (by decide) (q_aload_n rfl rfl (v_gi (z := 0) (v := 1) rfl rfl rfl (Nat.le_of_ble_eq_true rfl) rfl rfl ((up_c (nn rfl)).trans (up_e rfl)) (v_if_ne_t (t := 37) rfl rfl (by decide) ?_))))))))
      refine q_iconst rfl (v_zret rfl rfl (by decide) (bk_inl (v_zret rfl rfl (by decide) (bk_inl (v_if_eq_t (t := 32) rfl rfl (by decide) (q_iconst rfl (q_iret rfl rfl ?_)))))))
      have hI_11 := iw_41_0 (v := 0) hI ⟨by decide, by decide⟩
      have hI_12 := iw_41_0 (v := 1) hI_11 ⟨by decide, by decide⟩
      have hI_13 := iw_42 (j := 0) (v := y_10) hI_12 ⟨hy_10.1, hy_10.2⟩
      exact K (up (up (up c 41 0 0) 41 0 1) 42 0 y_10) 0 hI_13 (fun a j hm => (up_b (Decidable.or_iff_not_imp_left.mpr (fun h1 h2 => hm (Or.inr (Decidable.not_not.mp h1))))).trans ((up_b (Decidable.or_iff_not_imp_left.mpr (fun h1 h2 => hm (Or.inl ⟨Decidable.not_not.mp h1, h2⟩)))).trans (up_b (Decidable.or_iff_not_imp_left.mpr (fun h1 h2 => hm (Or.inl ⟨Decidable.not_not.mp h1, h2⟩)))))) ⟨by decide, by decide⟩
    · refine v_ic_gt_f (t := 14) rfl rfl ⟨ha1.1, (Int.not_lt.mp h_8), by first | exact rgm_h h_1.2 (by decide) | omega⟩ (q_iconst rfl (q_goto (t := 15) rfl rfl (v_zret rfl rfl (by decide) (bk_inl (q_iconst rfl (q_iconst rfl (v_cv rfl rfl rfl rfl (Nat.le_of_ble_eq_true rfl) ⟨⟨rfl, rfl⟩, Nat.le_of_ble_eq_true rfl, rfl⟩ (Nat.le_of_ble_eq_true rfl) (Nat.le_of_ble_eq_true rfl) ?_)))))))
      refine q_iload_n rfl rfl (v_if_ne_t (t := 26) rfl rfl (by decide) (q_aload_n rfl rfl (v_gi (z := 0) (v := 0) rfl rfl rfl (Nat.le_of_ble_eq_true rfl) rfl rfl (up_e rfl) (v_if_ne_f (t := 37) rfl rfl (by decide) (q_iconst rfl (q_goto (t := 38) rfl rfl (v_zret rfl rfl (by decide) ?_)))))))
      refine bk_inl (v_zret rfl rfl (by decide) (bk_inl (v_if_eq_f (t := 32) rfl rfl (by decide) (q_aload_n rfl rfl (q_iload_n rfl rfl (q_iconst rfl (q_iconst rfl ?_)))))))
      refine q_call rfl rfl rfl rfl (q_iload_n rfl rfl (q_iload_n rfl rfl ?_))
      by_cases h_14 : a2 < 0
      · refine v_ic_lt_t (t := 14) rfl rfl ⟨ha2.1, h_14, by decide⟩ (q_iconst rfl (v_zret rfl rfl (by decide) (bk_inl (q_iconst rfl (q_iconst rfl (v_cv rfl rfl rfl rfl (Nat.le_of_ble_eq_true rfl) ⟨⟨rfl, rfl⟩, Nat.le_of_ble_eq_true rfl, rfl⟩ (Nat.le_of_ble_eq_true rfl) (Nat.le_of_ble_eq_true rfl) (q_iload_n rfl rfl ?_)))))))
        refine v_if_ne_f (t := 26) rfl rfl (by decide) (q_aload_n rfl rfl (v_gi (z := 0) (v := 0) rfl rfl rfl (Nat.le_of_ble_eq_true rfl) rfl rfl (up_e rfl) (v_if_ne_f (t := 26) rfl rfl (by decide) (q_aload_n rfl rfl (q_iload_n rfl rfl (v_pi (z := 0) rfl rfl rfl (Nat.le_of_ble_eq_true rfl) rfl rfl rfl (by decide) (q_aload_n rfl rfl ?_)))))))
        refine v_gr (t := 42) rfl rfl rfl (Nat.le_of_ble_eq_true rfl) rfl (q_iload_n rfl rfl (q_dup2 rfl ⟨rfl, rfl⟩ ?_))
        have h_15 := ir_42 hI 1
        refine v_ia (v := c 42 1) rfl rfl (by decide) (by decide) (by decide) ((up_c (nn rfl)).trans (up_c (nn rfl))) (q_iconst rfl (v_iadd (v := c 42 1 + 1) rfl rfl (v_nrm (fun y_16 hy_16 => (v_is rfl rfl (by decide) (by decide) (by decide) (q_aload_n rfl rfl (v_gi (z := 0) (v := 2) rfl rfl rfl (Nat.le_of_ble_eq_true rfl) rfl rfl ((up_c (nn rfl)).trans (up_e rfl)) (v_if_ne_t (t := 37) rfl rfl (by decide) ?_))))))))
        refine q_iconst rfl (v_zret rfl rfl (by decide) (bk_inl (v_if_ne_f (t := 34) rfl rfl (by decide) (q_iconst rfl (q_iret rfl rfl ?_)))))
        have hI_17 := iw_41_0 (v := 0) hI ⟨by decide, by decide⟩
        have hI_18 := iw_41_0 (v := 2) hI_17 ⟨by decide, by decide⟩
        have hI_19 := iw_42 (j := 1) (v := y_16) hI_18 ⟨hy_16.1, hy_16.2⟩
        exact K (up (up (up c 41 0 0) 41 0 2) 42 1 y_16) 0 hI_19 (fun a j hm => (up_b (Decidable.or_iff_not_imp_left.mpr (fun h1 h2 => hm (Or.inr (Decidable.not_not.mp h1))))).trans ((up_b (Decidable.or_iff_not_imp_left.mpr (fun h1 h2 => hm (Or.inl ⟨Decidable.not_not.mp h1, h2⟩)))).trans (up_b (Decidable.or_iff_not_imp_left.mpr (fun h1 h2 => hm (Or.inl ⟨Decidable.not_not.mp h1, h2⟩)))))) ⟨by decide, by decide⟩
      · refine v_ic_lt_f (t := 14) rfl rfl ⟨by decide, (Int.not_lt.mp h_14), ha2.2⟩ (q_iload_n rfl rfl (q_iload_n rfl rfl ?_))
        by_cases h_20 : a2 > 2
        · refine v_ic_gt_t (t := 14) rfl rfl ⟨by decide, h_20, ha2.2⟩ (q_iconst rfl (v_zret rfl rfl (by decide) (bk_inl (q_iconst rfl (q_iconst rfl (v_cv rfl rfl rfl rfl (Nat.le_of_ble_eq_true rfl) ⟨⟨rfl, rfl⟩, Nat.le_of_ble_eq_true rfl, rfl⟩ (Nat.le_of_ble_eq_true rfl) (Nat.le_of_ble_eq_true rfl) (q_iload_n rfl rfl ?_)))))))
          refine v_if_ne_f (t := 26) rfl rfl (by decide) (q_aload_n rfl rfl (v_gi (z := 0) (v := 0) rfl rfl rfl (Nat.le_of_ble_eq_true rfl) rfl rfl (up_e rfl) (v_if_ne_f (t := 26) rfl rfl (by decide) (q_aload_n rfl rfl (q_iload_n rfl rfl (v_pi (z := 0) rfl rfl rfl (Nat.le_of_ble_eq_true rfl) rfl rfl rfl (by decide) (q_aload_n rfl rfl ?_)))))))
          refine v_gr (t := 42) rfl rfl rfl (Nat.le_of_ble_eq_true rfl) rfl (q_iload_n rfl rfl (q_dup2 rfl ⟨rfl, rfl⟩ ?_))
          have h_21 := ir_42 hI 1
          refine v_ia (v := c 42 1) rfl rfl (by decide) (by decide) (by decide) ((up_c (nn rfl)).trans (up_c (nn rfl))) (q_iconst rfl (v_iadd (v := c 42 1 + 1) rfl rfl (v_nrm (fun y_22 hy_22 => (v_is rfl rfl (by decide) (by decide) (by decide) (q_aload_n rfl rfl (v_gi (z := 0) (v := 2) rfl rfl rfl (Nat.le_of_ble_eq_true rfl) rfl rfl ((up_c (nn rfl)).trans (up_e rfl)) (v_if_ne_t (t := 37) rfl rfl (by decide) ?_))))))))
          refine q_iconst rfl (v_zret rfl rfl (by decide) (bk_inl (v_if_ne_f (t := 34) rfl rfl (by decide) (q_iconst rfl (q_iret rfl rfl ?_)))))
          have hI_23 := iw_41_0 (v := 0) hI ⟨by decide, by decide⟩
          have hI_24 := iw_41_0 (v := 2) hI_23 ⟨by decide, by decide⟩
          have hI_25 := iw_42 (j := 1) (v := y_22) hI_24 ⟨hy_22.1, hy_22.2⟩
          exact K (up (up (up c 41 0 0) 41 0 2) 42 1 y_22) 0 hI_25 (fun a j hm => (up_b (Decidable.or_iff_not_imp_left.mpr (fun h1 h2 => hm (Or.inr (Decidable.not_not.mp h1))))).trans ((up_b (Decidable.or_iff_not_imp_left.mpr (fun h1 h2 => hm (Or.inl ⟨Decidable.not_not.mp h1, h2⟩)))).trans (up_b (Decidable.or_iff_not_imp_left.mpr (fun h1 h2 => hm (Or.inl ⟨Decidable.not_not.mp h1, h2⟩)))))) ⟨by decide, by decide⟩
        · refine v_ic_gt_f (t := 14) rfl rfl ⟨ha2.1, (Int.not_lt.mp h_20), by decide⟩ (q_iconst rfl (q_goto (t := 15) rfl rfl (v_zret rfl rfl (by decide) (bk_inl (q_iconst rfl (q_iconst rfl (v_cv rfl rfl rfl rfl (Nat.le_of_ble_eq_true rfl) ⟨⟨rfl, rfl⟩, Nat.le_of_ble_eq_true rfl, rfl⟩ (Nat.le_of_ble_eq_true rfl) (Nat.le_of_ble_eq_true rfl) ?_)))))))
          refine q_iload_n rfl rfl (v_if_ne_t (t := 26) rfl rfl (by decide) (q_aload_n rfl rfl (v_gi (z := 0) (v := 0) rfl rfl rfl (Nat.le_of_ble_eq_true rfl) rfl rfl (up_e rfl) (v_if_ne_f (t := 37) rfl rfl (by decide) (q_iconst rfl (q_goto (t := 38) rfl rfl (v_zret rfl rfl (by decide) ?_)))))))
          refine bk_inl (v_if_ne_t (t := 34) rfl rfl (by decide) (q_aload_n rfl rfl (v_gr (t := 48) rfl rfl rfl (Nat.le_of_ble_eq_true rfl) rfl (q_iconst rfl (q_iload_n rfl rfl (v_imul (v := 3 * a1) rfl rfl (q_iload_n rfl rfl ?_)))))))
          refine v_iadd (v := 3 * a1 + a2) rfl rfl ?_
          have h_26 := ir_48 hI (3 * a1 + a2)
          refine v_ia (v := c 48 (3 * a1 + a2)) rfl rfl (by decide) (by decide) ⟨by first | exact q_8256bb04b h_14 h_2 | omega, by first | exact q_c1df8a943 h_1 h_20 h_8 | omega⟩ (up_c (nn rfl)) (q_iret rfl rfl ?_)
          have hI_27 := iw_41_0 (v := 0) hI ⟨by decide, by decide⟩
          exact K (up c 41 0 0) (c 48 (3 * a1 + a2)) hI_27 (fun a j hm => up_b (Decidable.or_iff_not_imp_left.mpr (fun h1 h2 => hm (Or.inl ⟨Decidable.not_not.mp h1, h2⟩)))) ⟨(Int.le_trans (by decide) h_26.1), (Int.le_trans h_26.2 (by decide))⟩

set_option maxRecDepth 100000 in
set_option maxHeartbeats 4000000 in
theorem s_215 {sc : List Int32} {e : Int} {d u P Q : Nat} {c : ME} {a1 : Int} {a2 : Int} {Z : AR → Prop} (hI : Iv u e P Q c) (ha1 : (-2147483648) ≤ a1 ∧ a1 ≤ 2147483647) (ha2 : (-2147483648) ≤ a2 ∧ a2 ≤ 2147483647) (K : ∀ (c2 : ME) (y : Int), Iv u e P Q c2 → (∀ (a : Nat) (j : Int), ¬ ((a = 41 ∧ j = 0) ∨ a = 42) → c2 a j = c a j) → (-2147483648) ≤ y ∧ y ≤ 2147483647 → Z (.inl (some (vi y)), Wd P Q P P c2, 0, 0)) : Wp sc (d + 9) 215 0 [(0, .ref 41), (1, vi a1), (2, vi a2)] [] (Wd P Q P P c) 0 0 Z := by
  have hP := iv_P hI
  have hQ := iv_Q hI
  refine q_aload_n rfl rfl (q_iconst rfl (v_pi (z := 0) rfl rfl rfl (Nat.le_of_ble_eq_true rfl) rfl rfl rfl (by decide) (q_aload_n rfl rfl (q_iload_n rfl rfl (q_aload_n rfl rfl ?_)))))
  have h_1 := ir_41_22 hI
  refine v_gi (z := 22) (v := c 41 22) rfl rfl rfl (Nat.le_of_ble_eq_true rfl) rfl rfl (up_n (by decide)) (v_cv rfl rfl rfl rfl (Nat.le_of_ble_eq_true rfl) ⟨⟨rfl, rfl⟩, Nat.le_of_ble_eq_true rfl, rfl⟩ (Nat.le_of_ble_eq_true rfl) (Nat.le_of_ble_eq_true rfl) (q_aload_n rfl rfl (q_iload_n rfl rfl (q_iconst rfl (q_iload_n rfl rfl (q_iconst rfl (v_isub (v := c 41 22 - 1) rfl rfl ?_)))))))
  refine q_call rfl rfl rfl rfl (q_iload_n rfl rfl (q_iload_n rfl rfl ?_))
  by_cases h_2 : a1 < 0
  · refine v_ic_lt_t (t := 14) rfl rfl ⟨ha1.1, h_2, by decide⟩ (q_iconst rfl (v_zret rfl rfl (by decide) (bk_inl (q_iconst rfl (q_iconst rfl (v_cv rfl rfl rfl rfl (Nat.le_of_ble_eq_true rfl) ⟨⟨rfl, rfl⟩, Nat.le_of_ble_eq_true rfl, rfl⟩ (Nat.le_of_ble_eq_true rfl) (Nat.le_of_ble_eq_true rfl) (q_iload_n rfl rfl ?_)))))))
    refine v_if_ne_f (t := 26) rfl rfl (by decide) (q_aload_n rfl rfl (v_gi (z := 0) (v := 0) rfl rfl rfl (Nat.le_of_ble_eq_true rfl) rfl rfl (up_e rfl) (v_if_ne_f (t := 26) rfl rfl (by decide) (q_aload_n rfl rfl (q_iload_n rfl rfl (v_pi (z := 0) rfl rfl rfl (Nat.le_of_ble_eq_true rfl) rfl rfl rfl (by decide) (q_aload_n rfl rfl ?_)))))))
    refine v_gr (t := 42) rfl rfl rfl (Nat.le_of_ble_eq_true rfl) rfl (q_iload_n rfl rfl (q_dup2 rfl ⟨rfl, rfl⟩ ?_))
    have h_3 := ir_42 hI 0
    refine v_ia (v := c 42 0) rfl rfl (by decide) (by decide) (by decide) ((up_c (nn rfl)).trans (up_c (nn rfl))) (q_iconst rfl (v_iadd (v := c 42 0 + 1) rfl rfl (v_nrm (fun y_4 hy_4 => (v_is rfl rfl (by decide) (by decide) (by decide) (q_aload_n rfl rfl (v_gi (z := 0) (v := 1) rfl rfl rfl (Nat.le_of_ble_eq_true rfl) rfl rfl ((up_c (nn rfl)).trans (up_e rfl)) (v_if_ne_t (t := 37) rfl rfl (by decide) ?_))))))))
    refine q_iconst rfl (v_zret rfl rfl (by decide) (bk_inl (v_zret rfl rfl (by decide) (bk_inl (v_if_eq_t (t := 32) rfl rfl (by decide) (q_iconst rfl (q_iret rfl rfl ?_)))))))
    have hI_5 := iw_41_0 (v := 0) hI ⟨by decide, by decide⟩
    have hI_6 := iw_41_0 (v := 1) hI_5 ⟨by decide, by decide⟩
    have hI_7 := iw_42 (j := 0) (v := y_4) hI_6 ⟨hy_4.1, hy_4.2⟩
    exact K (up (up (up c 41 0 0) 41 0 1) 42 0 y_4) 0 hI_7 (fun a j hm => (up_b (Decidable.or_iff_not_imp_left.mpr (fun h1 h2 => hm (Or.inr (Decidable.not_not.mp h1))))).trans ((up_b (Decidable.or_iff_not_imp_left.mpr (fun h1 h2 => hm (Or.inl ⟨Decidable.not_not.mp h1, h2⟩)))).trans (up_b (Decidable.or_iff_not_imp_left.mpr (fun h1 h2 => hm (Or.inl ⟨Decidable.not_not.mp h1, h2⟩)))))) ⟨by decide, by decide⟩
  · refine v_ic_lt_f (t := 14) rfl rfl ⟨by decide, (Int.not_lt.mp h_2), ha1.2⟩ (q_iload_n rfl rfl (q_iload_n rfl rfl ?_))
    by_cases h_8 : a1 > c 41 22 - 1
    · refine v_ic_gt_t (t := 14) rfl rfl ⟨by first | exact rgm_l h_1.1 (by decide) | omega, h_8, ha1.2⟩ (q_iconst rfl (v_zret rfl rfl (by decide) (bk_inl (q_iconst rfl (q_iconst rfl (v_cv rfl rfl rfl rfl (Nat.le_of_ble_eq_true rfl) ⟨⟨rfl, rfl⟩, Nat.le_of_ble_eq_true rfl, rfl⟩ (Nat.le_of_ble_eq_true rfl) (Nat.le_of_ble_eq_true rfl) (q_iload_n rfl rfl ?_)))))))
      refine v_if_ne_f (t := 26) rfl rfl (by decide) (q_aload_n rfl rfl (v_gi (z := 0) (v := 0) rfl rfl rfl (Nat.le_of_ble_eq_true rfl) rfl rfl (up_e rfl) (v_if_ne_f (t := 26) rfl rfl (by decide) (q_aload_n rfl rfl (q_iload_n rfl rfl (v_pi (z := 0) rfl rfl rfl (Nat.le_of_ble_eq_true rfl) rfl rfl rfl (by decide) (q_aload_n rfl rfl ?_)))))))
      refine v_gr (t := 42) rfl rfl rfl (Nat.le_of_ble_eq_true rfl) rfl (q_iload_n rfl rfl (q_dup2 rfl ⟨rfl, rfl⟩ ?_))
      have h_9 := ir_42 hI 0
      refine v_ia (v := c 42 0) rfl rfl (by decide) (by decide) (by decide) ((up_c (nn rfl)).trans (up_c (nn rfl))) (q_iconst rfl (v_iadd (v := c 42 0 + 1) rfl rfl (v_nrm (fun y_10 hy_10 => (v_is rfl rfl (by decide) (by decide) (by decide) (q_aload_n rfl rfl (v_gi (z := 0) (v := 1) rfl rfl rfl (Nat.le_of_ble_eq_true rfl) rfl rfl ((up_c (nn rfl)).trans (up_e rfl)) (v_if_ne_t (t := 37) rfl rfl (by decide) ?_))))))))
      refine q_iconst rfl (v_zret rfl rfl (by decide) (bk_inl (v_zret rfl rfl (by decide) (bk_inl (v_if_eq_t (t := 32) rfl rfl (by decide) (q_iconst rfl (q_iret rfl rfl ?_)))))))
      have hI_11 := iw_41_0 (v := 0) hI ⟨by decide, by decide⟩
      have hI_12 := iw_41_0 (v := 1) hI_11 ⟨by decide, by decide⟩
      have hI_13 := iw_42 (j := 0) (v := y_10) hI_12 ⟨hy_10.1, hy_10.2⟩
      exact K (up (up (up c 41 0 0) 41 0 1) 42 0 y_10) 0 hI_13 (fun a j hm => (up_b (Decidable.or_iff_not_imp_left.mpr (fun h1 h2 => hm (Or.inr (Decidable.not_not.mp h1))))).trans ((up_b (Decidable.or_iff_not_imp_left.mpr (fun h1 h2 => hm (Or.inl ⟨Decidable.not_not.mp h1, h2⟩)))).trans (up_b (Decidable.or_iff_not_imp_left.mpr (fun h1 h2 => hm (Or.inl ⟨Decidable.not_not.mp h1, h2⟩)))))) ⟨by decide, by decide⟩
    · refine v_ic_gt_f (t := 14) rfl rfl ⟨ha1.1, (Int.not_lt.mp h_8), by first | exact rgm_h h_1.2 (by decide) | omega⟩ (q_iconst rfl (q_goto (t := 15) rfl rfl (v_zret rfl rfl (by decide) (bk_inl (q_iconst rfl (q_iconst rfl (v_cv rfl rfl rfl rfl (Nat.le_of_ble_eq_true rfl) ⟨⟨rfl, rfl⟩, Nat.le_of_ble_eq_true rfl, rfl⟩ (Nat.le_of_ble_eq_true rfl) (Nat.le_of_ble_eq_true rfl) ?_)))))))
      refine q_iload_n rfl rfl (v_if_ne_t (t := 26) rfl rfl (by decide) (q_aload_n rfl rfl (v_gi (z := 0) (v := 0) rfl rfl rfl (Nat.le_of_ble_eq_true rfl) rfl rfl (up_e rfl) (v_if_ne_f (t := 37) rfl rfl (by decide) (q_iconst rfl (q_goto (t := 38) rfl rfl (v_zret rfl rfl (by decide) ?_)))))))
      refine bk_inl (v_zret rfl rfl (by decide) (bk_inl (v_if_eq_f (t := 32) rfl rfl (by decide) (q_aload_n rfl rfl (q_iload_n rfl rfl (q_iconst rfl (q_iconst rfl ?_)))))))
      refine q_call rfl rfl rfl rfl (q_iload_n rfl rfl (q_iload_n rfl rfl ?_))
      by_cases h_14 : a2 < 0
      · refine v_ic_lt_t (t := 14) rfl rfl ⟨ha2.1, h_14, by decide⟩ (q_iconst rfl (v_zret rfl rfl (by decide) (bk_inl (q_iconst rfl (q_iconst rfl (v_cv rfl rfl rfl rfl (Nat.le_of_ble_eq_true rfl) ⟨⟨rfl, rfl⟩, Nat.le_of_ble_eq_true rfl, rfl⟩ (Nat.le_of_ble_eq_true rfl) (Nat.le_of_ble_eq_true rfl) (q_iload_n rfl rfl ?_)))))))
        refine v_if_ne_f (t := 26) rfl rfl (by decide) (q_aload_n rfl rfl (v_gi (z := 0) (v := 0) rfl rfl rfl (Nat.le_of_ble_eq_true rfl) rfl rfl (up_e rfl) (v_if_ne_f (t := 26) rfl rfl (by decide) (q_aload_n rfl rfl (q_iload_n rfl rfl (v_pi (z := 0) rfl rfl rfl (Nat.le_of_ble_eq_true rfl) rfl rfl rfl (by decide) (q_aload_n rfl rfl ?_)))))))
        refine v_gr (t := 42) rfl rfl rfl (Nat.le_of_ble_eq_true rfl) rfl (q_iload_n rfl rfl (q_dup2 rfl ⟨rfl, rfl⟩ ?_))
        have h_15 := ir_42 hI 1
        refine v_ia (v := c 42 1) rfl rfl (by decide) (by decide) (by decide) ((up_c (nn rfl)).trans (up_c (nn rfl))) (q_iconst rfl (v_iadd (v := c 42 1 + 1) rfl rfl (v_nrm (fun y_16 hy_16 => (v_is rfl rfl (by decide) (by decide) (by decide) (q_aload_n rfl rfl (v_gi (z := 0) (v := 2) rfl rfl rfl (Nat.le_of_ble_eq_true rfl) rfl rfl ((up_c (nn rfl)).trans (up_e rfl)) (v_if_ne_t (t := 37) rfl rfl (by decide) ?_))))))))
        refine q_iconst rfl (v_zret rfl rfl (by decide) (bk_inl (v_if_ne_f (t := 34) rfl rfl (by decide) (q_iconst rfl (q_iret rfl rfl ?_)))))
        have hI_17 := iw_41_0 (v := 0) hI ⟨by decide, by decide⟩
        have hI_18 := iw_41_0 (v := 2) hI_17 ⟨by decide, by decide⟩
        have hI_19 := iw_42 (j := 1) (v := y_16) hI_18 ⟨hy_16.1, hy_16.2⟩
        exact K (up (up (up c 41 0 0) 41 0 2) 42 1 y_16) 0 hI_19 (fun a j hm => (up_b (Decidable.or_iff_not_imp_left.mpr (fun h1 h2 => hm (Or.inr (Decidable.not_not.mp h1))))).trans ((up_b (Decidable.or_iff_not_imp_left.mpr (fun h1 h2 => hm (Or.inl ⟨Decidable.not_not.mp h1, h2⟩)))).trans (up_b (Decidable.or_iff_not_imp_left.mpr (fun h1 h2 => hm (Or.inl ⟨Decidable.not_not.mp h1, h2⟩)))))) ⟨by decide, by decide⟩
      · refine v_ic_lt_f (t := 14) rfl rfl ⟨by decide, (Int.not_lt.mp h_14), ha2.2⟩ (q_iload_n rfl rfl (q_iload_n rfl rfl ?_))
        by_cases h_20 : a2 > 1
        · refine v_ic_gt_t (t := 14) rfl rfl ⟨by decide, h_20, ha2.2⟩ (q_iconst rfl (v_zret rfl rfl (by decide) (bk_inl (q_iconst rfl (q_iconst rfl (v_cv rfl rfl rfl rfl (Nat.le_of_ble_eq_true rfl) ⟨⟨rfl, rfl⟩, Nat.le_of_ble_eq_true rfl, rfl⟩ (Nat.le_of_ble_eq_true rfl) (Nat.le_of_ble_eq_true rfl) (q_iload_n rfl rfl ?_)))))))
          refine v_if_ne_f (t := 26) rfl rfl (by decide) (q_aload_n rfl rfl (v_gi (z := 0) (v := 0) rfl rfl rfl (Nat.le_of_ble_eq_true rfl) rfl rfl (up_e rfl) (v_if_ne_f (t := 26) rfl rfl (by decide) (q_aload_n rfl rfl (q_iload_n rfl rfl (v_pi (z := 0) rfl rfl rfl (Nat.le_of_ble_eq_true rfl) rfl rfl rfl (by decide) (q_aload_n rfl rfl ?_)))))))
          refine v_gr (t := 42) rfl rfl rfl (Nat.le_of_ble_eq_true rfl) rfl (q_iload_n rfl rfl (q_dup2 rfl ⟨rfl, rfl⟩ ?_))
          have h_21 := ir_42 hI 1
          refine v_ia (v := c 42 1) rfl rfl (by decide) (by decide) (by decide) ((up_c (nn rfl)).trans (up_c (nn rfl))) (q_iconst rfl (v_iadd (v := c 42 1 + 1) rfl rfl (v_nrm (fun y_22 hy_22 => (v_is rfl rfl (by decide) (by decide) (by decide) (q_aload_n rfl rfl (v_gi (z := 0) (v := 2) rfl rfl rfl (Nat.le_of_ble_eq_true rfl) rfl rfl ((up_c (nn rfl)).trans (up_e rfl)) (v_if_ne_t (t := 37) rfl rfl (by decide) ?_))))))))
          refine q_iconst rfl (v_zret rfl rfl (by decide) (bk_inl (v_if_ne_f (t := 34) rfl rfl (by decide) (q_iconst rfl (q_iret rfl rfl ?_)))))
          have hI_23 := iw_41_0 (v := 0) hI ⟨by decide, by decide⟩
          have hI_24 := iw_41_0 (v := 2) hI_23 ⟨by decide, by decide⟩
          have hI_25 := iw_42 (j := 1) (v := y_22) hI_24 ⟨hy_22.1, hy_22.2⟩
          exact K (up (up (up c 41 0 0) 41 0 2) 42 1 y_22) 0 hI_25 (fun a j hm => (up_b (Decidable.or_iff_not_imp_left.mpr (fun h1 h2 => hm (Or.inr (Decidable.not_not.mp h1))))).trans ((up_b (Decidable.or_iff_not_imp_left.mpr (fun h1 h2 => hm (Or.inl ⟨Decidable.not_not.mp h1, h2⟩)))).trans (up_b (Decidable.or_iff_not_imp_left.mpr (fun h1 h2 => hm (Or.inl ⟨Decidable.not_not.mp h1, h2⟩)))))) ⟨by decide, by decide⟩
        · refine v_ic_gt_f (t := 14) rfl rfl ⟨ha2.1, (Int.not_lt.mp h_20), by decide⟩ (q_iconst rfl (q_goto (t := 15) rfl rfl (v_zret rfl rfl (by decide) (bk_inl (q_iconst rfl (q_iconst rfl (v_cv rfl rfl rfl rfl (Nat.le_of_ble_eq_true rfl) ⟨⟨rfl, rfl⟩, Nat.le_of_ble_eq_true rfl, rfl⟩ (Nat.le_of_ble_eq_true rfl) (Nat.le_of_ble_eq_true rfl) ?_)))))))
          refine q_iload_n rfl rfl (v_if_ne_t (t := 26) rfl rfl (by decide) (q_aload_n rfl rfl (v_gi (z := 0) (v := 0) rfl rfl rfl (Nat.le_of_ble_eq_true rfl) rfl rfl (up_e rfl) (v_if_ne_f (t := 37) rfl rfl (by decide) (q_iconst rfl (q_goto (t := 38) rfl rfl (v_zret rfl rfl (by decide) ?_)))))))
          refine bk_inl (v_if_ne_t (t := 34) rfl rfl (by decide) (q_iload_n rfl rfl ?_))
          by_cases h_26 : a2 ≠ 0
          · refine v_if_ne_t (t := 47) rfl rfl ⟨h_26, ⟨ha2.1, ha2.2⟩, by decide, by decide⟩ (q_aload_n rfl rfl (v_gr (t := 58) rfl rfl rfl (Nat.le_of_ble_eq_true rfl) rfl (v_bip rfl (by decide) (q_iload_n rfl rfl (v_iadd (v := a1 + 30) rfl (by first | (clear ha1 ha2 h_1 h_2 h_8 h_14 h_20 h_26; omega) | omega) ?_)))))
            have h_27 := ir_58 hI (a1 + 30)
            refine v_ia (v := c 58 (a1 + 30)) rfl rfl (by decide) (by decide) ⟨by first | exact q_18ebff911 h_2 | (clear ha1 ha2 h_1 h_8 h_14 h_20 h_27 h_26; omega) | omega, by first | exact q_ebe6a6f81 h_1 h_8 | (clear ha1 ha2 h_2 h_14 h_20 h_27 h_26; omega) | omega⟩ (up_c (nn rfl)) (q_iret rfl rfl ?_)
            have hI_28 := iw_41_0 (v := 0) hI ⟨by decide, by decide⟩
            exact K (up c 41 0 0) (c 58 (a1 + 30)) hI_28 (fun a j hm => up_b (Decidable.or_iff_not_imp_left.mpr (fun h1 h2 => hm (Or.inl ⟨Decidable.not_not.mp h1, h2⟩)))) h_27
          · refine v_if_ne_f (t := 47) rfl rfl (Decidable.not_not.mp h_26) (q_aload_n rfl rfl (v_gr (t := 49) rfl rfl rfl (Nat.le_of_ble_eq_true rfl) rfl (q_iload_n rfl rfl ?_)))
            have h_29 := ir_49 hI a1
            refine v_ia (v := c 49 a1) rfl rfl (by decide) (by decide) ⟨by first | exact q_720657ba9 h_2 | omega, by first | exact q_0435250f0 h_1 h_8 | omega⟩ (up_c (nn rfl)) (q_goto (t := 56) rfl rfl (q_iret rfl rfl ?_))
            have hI_30 := iw_41_0 (v := 0) hI ⟨by decide, by decide⟩
            exact K (up c 41 0 0) (c 49 a1) hI_30 (fun a j hm => up_b (Decidable.or_iff_not_imp_left.mpr (fun h1 h2 => hm (Or.inl ⟨Decidable.not_not.mp h1, h2⟩)))) ⟨(Int.le_trans (by decide) h_29.1), (Int.le_trans h_29.2 (by decide))⟩

set_option maxRecDepth 100000 in
set_option maxHeartbeats 4000000 in
theorem s_216 {sc : List Int32} {d P Q : Nat} {c : ME} {a1 : Int} {Z : AR → Prop} (hI : Iv 0 (-1) P Q c) (ha1 : (-2147483648) ≤ a1 ∧ a1 ≤ 2147483647) (K : ∀ (c2 : ME) (y : Int), Iv 0 (-1) P Q c2 → (∀ (a : Nat) (j : Int), ¬ ((a = 41 ∧ j = 0) ∨ a = 42 ∨ a = 59 ∨ a = 54 ∨ a = 55) → c2 a j = c a j) → (-2147483648) ≤ y ∧ y ≤ 2147483647 → Z (.inl (some (vi y)), Wd P Q P P c2, 0, 0)) : Wp sc (d + 12) 216 0 [(0, .ref 41), (1, vi a1)] [] (Wd P Q P P c) 0 0 Z := by
  have hP := iv_P hI
  have hQ := iv_Q hI
  refine q_aload_n rfl rfl (q_iconst rfl (v_pi (z := 0) rfl rfl rfl (Nat.le_of_ble_eq_true rfl) rfl rfl rfl (by decide) (q_aload_n rfl rfl (q_iload_n rfl rfl (q_aload_n rfl rfl ?_)))))
  have h_1 := ir_41_20 hI
  refine v_gi (z := 20) (v := c 41 20) rfl rfl rfl (Nat.le_of_ble_eq_true rfl) rfl rfl (up_n (by decide)) (v_cv rfl rfl rfl rfl (Nat.le_of_ble_eq_true rfl) ⟨⟨rfl, rfl⟩, Nat.le_of_ble_eq_true rfl, rfl⟩ (Nat.le_of_ble_eq_true rfl) (Nat.le_of_ble_eq_true rfl) (q_aload_n rfl rfl (q_iload_n rfl rfl (q_iconst rfl (q_iload_n rfl rfl (q_iconst rfl (v_isub (v := c 41 20 - 1) rfl rfl ?_)))))))
  refine q_call rfl rfl rfl rfl (q_iload_n rfl rfl (q_iload_n rfl rfl ?_))
  by_cases h_2 : a1 < 0
  · refine v_ic_lt_t (t := 14) rfl rfl ⟨ha1.1, h_2, by decide⟩ (q_iconst rfl (v_zret rfl rfl (by decide) (bk_inl (q_iconst rfl (q_iconst rfl (v_cv rfl rfl rfl rfl (Nat.le_of_ble_eq_true rfl) ⟨⟨rfl, rfl⟩, Nat.le_of_ble_eq_true rfl, rfl⟩ (Nat.le_of_ble_eq_true rfl) (Nat.le_of_ble_eq_true rfl) (q_iload_n rfl rfl ?_)))))))
    refine v_if_ne_f (t := 26) rfl rfl (by decide) (q_aload_n rfl rfl (v_gi (z := 0) (v := 0) rfl rfl rfl (Nat.le_of_ble_eq_true rfl) rfl rfl (up_e rfl) (v_if_ne_f (t := 26) rfl rfl (by decide) (q_aload_n rfl rfl (q_iload_n rfl rfl (v_pi (z := 0) rfl rfl rfl (Nat.le_of_ble_eq_true rfl) rfl rfl rfl (by decide) (q_aload_n rfl rfl ?_)))))))
    refine v_gr (t := 42) rfl rfl rfl (Nat.le_of_ble_eq_true rfl) rfl (q_iload_n rfl rfl (q_dup2 rfl ⟨rfl, rfl⟩ ?_))
    have h_3 := ir_42 hI 0
    refine v_ia (v := c 42 0) rfl rfl (by decide) (by decide) (by decide) ((up_c (nn rfl)).trans (up_c (nn rfl))) (q_iconst rfl (v_iadd (v := c 42 0 + 1) rfl rfl (v_nrm (fun y_4 hy_4 => (v_is rfl rfl (by decide) (by decide) (by decide) (q_aload_n rfl rfl (v_gi (z := 0) (v := 1) rfl rfl rfl (Nat.le_of_ble_eq_true rfl) rfl rfl ((up_c (nn rfl)).trans (up_e rfl)) (v_if_ne_t (t := 37) rfl rfl (by decide) ?_))))))))
    refine q_iconst rfl (v_zret rfl rfl (by decide) (bk_inl (v_zret rfl rfl (by decide) (bk_inl (v_if_ne_f (t := 19) rfl rfl (by decide) (q_iconst rfl (q_iret rfl rfl ?_)))))))
    have hI_5 := iw_41_0 (v := 0) hI ⟨by decide, by decide⟩
    have hI_6 := iw_41_0 (v := 1) hI_5 ⟨by decide, by decide⟩
    have hI_7 := iw_42 (j := 0) (v := y_4) hI_6 ⟨hy_4.1, hy_4.2⟩
    exact K (up (up (up c 41 0 0) 41 0 1) 42 0 y_4) 0 hI_7 (fun a j hm => (up_b (Decidable.or_iff_not_imp_left.mpr (fun h1 h2 => hm (Or.inr (Or.inl (Decidable.not_not.mp h1)))))).trans ((up_b (Decidable.or_iff_not_imp_left.mpr (fun h1 h2 => hm (Or.inl ⟨Decidable.not_not.mp h1, h2⟩)))).trans (up_b (Decidable.or_iff_not_imp_left.mpr (fun h1 h2 => hm (Or.inl ⟨Decidable.not_not.mp h1, h2⟩)))))) ⟨by decide, by decide⟩
  · refine v_ic_lt_f (t := 14) rfl rfl ⟨by decide, (Int.not_lt.mp h_2), ha1.2⟩ (q_iload_n rfl rfl (q_iload_n rfl rfl ?_))
    by_cases h_8 : a1 > c 41 20 - 1
    · refine v_ic_gt_t (t := 14) rfl rfl ⟨by first | exact rgm_l h_1.1 (by decide) | omega, h_8, ha1.2⟩ (q_iconst rfl (v_zret rfl rfl (by decide) (bk_inl (q_iconst rfl (q_iconst rfl (v_cv rfl rfl rfl rfl (Nat.le_of_ble_eq_true rfl) ⟨⟨rfl, rfl⟩, Nat.le_of_ble_eq_true rfl, rfl⟩ (Nat.le_of_ble_eq_true rfl) (Nat.le_of_ble_eq_true rfl) (q_iload_n rfl rfl ?_)))))))
      refine v_if_ne_f (t := 26) rfl rfl (by decide) (q_aload_n rfl rfl (v_gi (z := 0) (v := 0) rfl rfl rfl (Nat.le_of_ble_eq_true rfl) rfl rfl (up_e rfl) (v_if_ne_f (t := 26) rfl rfl (by decide) (q_aload_n rfl rfl (q_iload_n rfl rfl (v_pi (z := 0) rfl rfl rfl (Nat.le_of_ble_eq_true rfl) rfl rfl rfl (by decide) (q_aload_n rfl rfl ?_)))))))
      refine v_gr (t := 42) rfl rfl rfl (Nat.le_of_ble_eq_true rfl) rfl (q_iload_n rfl rfl (q_dup2 rfl ⟨rfl, rfl⟩ ?_))
      have h_9 := ir_42 hI 0
      refine v_ia (v := c 42 0) rfl rfl (by decide) (by decide) (by decide) ((up_c (nn rfl)).trans (up_c (nn rfl))) (q_iconst rfl (v_iadd (v := c 42 0 + 1) rfl rfl (v_nrm (fun y_10 hy_10 => (v_is rfl rfl (by decide) (by decide) (by decide) (q_aload_n rfl rfl (v_gi (z := 0) (v := 1) rfl rfl rfl (Nat.le_of_ble_eq_true rfl) rfl rfl ((up_c (nn rfl)).trans (up_e rfl)) (v_if_ne_t (t := 37) rfl rfl (by decide) ?_))))))))
      refine q_iconst rfl (v_zret rfl rfl (by decide) (bk_inl (v_zret rfl rfl (by decide) (bk_inl (v_if_ne_f (t := 19) rfl rfl (by decide) (q_iconst rfl (q_iret rfl rfl ?_)))))))
      have hI_11 := iw_41_0 (v := 0) hI ⟨by decide, by decide⟩
      have hI_12 := iw_41_0 (v := 1) hI_11 ⟨by decide, by decide⟩
      have hI_13 := iw_42 (j := 0) (v := y_10) hI_12 ⟨hy_10.1, hy_10.2⟩
      exact K (up (up (up c 41 0 0) 41 0 1) 42 0 y_10) 0 hI_13 (fun a j hm => (up_b (Decidable.or_iff_not_imp_left.mpr (fun h1 h2 => hm (Or.inr (Or.inl (Decidable.not_not.mp h1)))))).trans ((up_b (Decidable.or_iff_not_imp_left.mpr (fun h1 h2 => hm (Or.inl ⟨Decidable.not_not.mp h1, h2⟩)))).trans (up_b (Decidable.or_iff_not_imp_left.mpr (fun h1 h2 => hm (Or.inl ⟨Decidable.not_not.mp h1, h2⟩)))))) ⟨by decide, by decide⟩
    · refine v_ic_gt_f (t := 14) rfl rfl ⟨ha1.1, (Int.not_lt.mp h_8), by first | exact rgm_h h_1.2 (by decide) | omega⟩ (q_iconst rfl (q_goto (t := 15) rfl rfl (v_zret rfl rfl (by decide) (bk_inl (q_iconst rfl (q_iconst rfl (v_cv rfl rfl rfl rfl (Nat.le_of_ble_eq_true rfl) ⟨⟨rfl, rfl⟩, Nat.le_of_ble_eq_true rfl, rfl⟩ (Nat.le_of_ble_eq_true rfl) (Nat.le_of_ble_eq_true rfl) ?_)))))))
      refine q_iload_n rfl rfl (v_if_ne_t (t := 26) rfl rfl (by decide) (q_aload_n rfl rfl (v_gi (z := 0) (v := 0) rfl rfl rfl (Nat.le_of_ble_eq_true rfl) rfl rfl (up_e rfl) (v_if_ne_f (t := 37) rfl rfl (by decide) (q_iconst rfl (q_goto (t := 38) rfl rfl (v_zret rfl rfl (by decide) ?_)))))))
      refine bk_inl (v_zret rfl rfl (by decide) (bk_inl (v_if_ne_t (t := 19) rfl rfl (by decide) (q_aload_n rfl rfl ?_))))
      have hI_14 := iw_41_0 (v := 0) hI ⟨by decide, by decide⟩
      refine v_cv rfl rfl rfl rfl (Nat.le_of_ble_eq_true rfl) ⟨⟨rfl, rfl⟩, Nat.le_of_ble_eq_true rfl, rfl⟩ (Nat.le_of_ble_eq_true rfl) (Nat.le_of_ble_eq_true rfl) (s_186 hI_14 (fun c_15 hI_16 hF_17 => (bk_inl (q_aload_n rfl rfl (q_iload_n rfl rfl (v_cv rfl rfl rfl rfl (Nat.le_of_ble_eq_true rfl) ⟨⟨rfl, rfl⟩, Nat.le_of_ble_eq_true rfl, rfl⟩ (Nat.le_of_ble_eq_true rfl) (Nat.le_of_ble_eq_true rfl) (s_196 (a1 := a1) hI_16 (show 0 ≤ a1 ∧ a1 ≤ 5 from ⟨by first | exact q_720657ba9 h_2 | omega, by first | exact q_3a2e67ab0 h_1 h_8 | omega⟩) (fun c_18 y_21 hI_19 hF_20 hy_21 => (bk_inl (q_iret rfl rfl ?_))))))))))
      exact K c_18 y_21 hI_19 (fun a j hm => (hF_20 a j (fun q => q.elim (fun h => hm (Or.inr (Or.inr (Or.inr (Or.inl h))))) (fun h => hm (Or.inr (Or.inr (Or.inr (Or.inr h))))))).trans ((hF_17 a j (fun h => hm (Or.inr (Or.inr (Or.inl h))))).trans (up_b (Decidable.or_iff_not_imp_left.mpr (fun h1 h2 => hm (Or.inl ⟨Decidable.not_not.mp h1, h2⟩)))))) ⟨(Int.le_trans (by decide) hy_21.1), (Int.le_trans hy_21.2 (by decide))⟩

