/-! ===== contracts 21 ===== -/
theorem q_eb3a7ad7a {x0 : Int} (f0 : 0 ≤ x0 ∧ x0 ≤ 3) : 0 ≤ x0 := by omega
theorem q_c99d6ea93 {x0 : Int} (f0 : 0 ≤ x0 ∧ x0 ≤ 3) : x0 ≤ 3 := by omega
theorem q_9182abc2f {x0 : Int} : (x0) + 30 = x0 + 30 := by omega
theorem q_1fe14b988 {x0 x1 : Int} (f0 : ¬ (x0 ≥ x1)) (f1 : 0 ≤ x0 ∧ x0 ≤ 8) : 0 ≤ x1 := by omega
theorem q_a093e8b4d {x0 x1 : Int} (f0 : x0 ≤ x1) (f1 : 0 ≤ x1 ∧ x1 ≤ 8) : x0 ≤ 8 := by omega
theorem q_d894f56d7 {x0 x1 : Int} (f0 : ¬ (x0 > x1)) (f1 : 1 ≤ x0 ∧ x0 ≤ 64) : 0 ≤ x1 := by omega
theorem q_6b730c0e0 {x0 x1 : Int} (f0 : 0 ≤ x0 ∧ x0 ≤ 4) (f1 : 0 ≤ x1 ∧ x1 < x0) : x1 ≤ 3 := by omega
theorem q_37f19ee02 {x0 x1 x2 x3 : Int} (f0 : 0 ≤ x0 ∧ x0 < x1) (f1 : 0 ≤ x2 ∧ x2 < x3) : (-2147483648) ≤ x0 + 10 * x2 := by omega
theorem q_112b0dcbc {x0 x1 x2 x3 : Int} (f0 : 0 ≤ x0 ∧ x0 ≤ 4) (f1 : 0 ≤ x1 ∧ x1 < x2) (f2 : 0 ≤ x2 ∧ x2 ≤ 6) (f3 : 0 ≤ x3 ∧ x3 < x0) : x1 + 10 * x3 ≤ 2147483647 := by omega
theorem q_d5c4fed04 {x0 x1 : Int} (f0 : 0 ≤ x0 ∧ x0 ≤ 6) (f1 : 0 ≤ x1 ∧ x1 < x0) : x1 ≤ 5 := by omega
theorem q_263c88b99 {x0 x1 : Int} (f0 : ¬ (x0 ≤ x1)) (f1 : 0 ≤ x1 ∧ x1 ≤ 2147483647) : 0 ≤ x0 := by omega
theorem q_238d50ffa {x0 x1 x2 : Int} (f0 : 0 ≤ x0 ∧ x0 ≤ 6) (f1 : 0 ≤ x1 ∧ x1 < x0) (f2 : 0 ≤ x2 ∧ x2 ≤ 3) : 4 * x1 + x2 < 24 := by omega
set_option maxRecDepth 100000 in
set_option maxHeartbeats 4000000 in
theorem s_221_l {sc : List Int32} {d P Q : Nat} {c : ME} {a1 : Int} {a2 : Int} {Z : AR → Prop} (hI : Iv 0 (-1) P Q c) (ha1 : (-2147483648) ≤ a1 ∧ a1 ≤ 2147483647) (ha2 : (-2147483648) ≤ a2 ∧ a2 ≤ 2147483647) (K : ∀ (c2 : ME) (y : Int), Iv 0 (-1) P Q c2 → (∀ (a : Nat) (j : Int), ¬ ((a = 41 ∧ j = 0) ∨ a = 42 ∨ a = 59) → c2 a j = c a j) → (-2147483648) ≤ y ∧ y ≤ 2147483647 → Z (.inl (some (vi y)), Wd P Q P P c2, 0, 0)) : ∀ n : Nat, (∀ (c2 : ME) (v3 : Int), Iv 0 (-1) P Q c2 → (∀ (a : Nat) (j : Int), ¬ ((a = 41 ∧ j = 0) ∨ a = 42 ∨ a = 59) → c2 a j = c a j) → 0 ≤ v3 ∧ v3 ≤ 8 → ((a2 ≤ c 41 47)) → ((a1 ≥ 0 ∧ a1 ≤ 5)) → ((a2 ≥ 0 ∧ a2 ≤ 8)) → 17 - 2 * v3 < (n : Int) → Wp sc (d + 9) 221 53 [(0, .ref 41), (1, vi a1), (2, vi a2), (3, vi v3)] [] (Wd P Q P P c2) 0 0 Z)
  | 0 => by intro c2 v3 hI2 hF hv3 hx0 hx1 hx2 hm9; have hP := iv_P hI; have hQ := iv_Q hI; exfalso; omega
  | n + 1 => by
    have hP := iv_P hI
    have hQ := iv_Q hI
    have ih := s_221_l (sc := sc) (d := d) hI ha1 ha2 K n
    intro c2 v3 hI2 hF hv3 hx0 hx1 hx2 hm9
    have h_1 := ir_41_47 hI
    have hIo : Iv 59 (-1) P Q c2 := iv_open hI2
    have hsum_2 := ir_59_r hI2 (by decide) (j := a1) (by omega)
    have h_3 := ir_59_g hI2 (j := 4 * a1) (by omega)
    have h_4 := ir_59_g hI2 (j := 4 * a1 + 1) (by omega)
    have h_5 := ir_59_g hI2 (j := 4 * a1 + 2) (by omega)
    have h_6 := ir_59_g hI2 (j := 4 * a1 + 3) (by omega)
    refine q_iload_n rfl rfl (q_iload_n rfl rfl ?_)
    by_cases h_7 : v3 ≥ a2
    · refine v_ic_ge_t (t := 103) rfl rfl ⟨ha2.1, h_7, (Int.le_trans hv3.2 (by decide))⟩ (q_iload_n rfl rfl (q_aload_n rfl rfl ?_))
      have kn_8 : Hid (c2 41 47 = c 41 47) := hF 41 47 (fun q => q.elim (fun h => absurd h.2 (ni rfl)) (fun q => q.elim (fun h => absurd h (nn rfl)) (fun h => absurd h (nn rfl))))
      refine v_gi (z := 47) (v := c 41 47) rfl rfl rfl (Nat.le_of_ble_eq_true rfl) rfl rfl (hid kn_8) ?_
      by_cases h_9 : a2 ≠ c 41 47
      · refine v_ic_ne_t (t := 119) rfl rfl ⟨h_9, ⟨ha2.1, ha2.2⟩, (Int.le_trans (by decide) h_1.1), (Int.le_trans h_1.2 (by decide))⟩ (q_aload_n rfl rfl (q_iload_n rfl rfl (v_cv rfl rfl rfl rfl (Nat.le_of_ble_eq_true rfl) ⟨⟨rfl, rfl⟩, Nat.le_of_ble_eq_true rfl, rfl⟩ (Nat.le_of_ble_eq_true rfl) (Nat.le_of_ble_eq_true rfl) (s_187 (v1 := c2 59 (4 * a1)) (v2 := c2 59 (4 * a1 + 1)) (v3 := c2 59 (4 * a1 + 2)) (v4 := c2 59 (4 * a1 + 3)) (r := c2 59 (4 * a1 + 1) + c2 59 (4 * a1 + 2) + c2 59 (4 * a1 + 3) + c2 59 (4 * a1)) (a1 := a1) hIo (show 0 ≤ a1 ∧ a1 ≤ 5 from ⟨by first | (clear ha1 ha2 hv3 hx0 hx2 h_1 h_3 h_4 h_5 h_6 h_7 h_9; omega) | omega, by first | (clear ha1 ha2 hv3 hx0 hx2 h_1 h_3 h_4 h_5 h_6 h_7 h_9; omega) | omega⟩) (rfl) (rfl) (rfl) (rfl) (by omega) (bk_inl (q_aload_n rfl rfl (q_aload_n rfl rfl (v_gr (t := 62) rfl rfl rfl (Nat.le_of_ble_eq_true rfl) rfl ?_))))))))
        refine q_iload_n rfl rfl ?_
        have h_10 := ir_62 hI a2
        have kn_11 : Hid (c2 62 a2 = c 62 a2) := hF 62 a2 (fun q => q.elim (fun h => absurd h.1 (nn rfl)) (fun q => q.elim (fun h => absurd h (nn rfl)) (fun h => absurd h (nn rfl))))
        refine v_ia (v := c 62 a2) rfl rfl (by decide) (by decide) ⟨by first | (clear ha1 ha2 hv3 hx0 hx1 h_1 h_3 h_4 h_5 h_6 h_7 h_10 h_9; omega) | omega, by first | (clear ha1 ha2 hv3 hx1 hx2 h_3 h_4 h_5 h_6 h_7 h_10; omega) | omega⟩ (hid kn_11) (q_iload_n rfl rfl ?_)
        have h_12 := ir_49 hI (c 62 a2)
        have kn_13 : Hid (c2 49 (c 62 a2) = c 49 (c 62 a2)) := hF 49 (c 62 a2) (fun q => q.elim (fun h => absurd h.1 (nn rfl)) (fun q => q.elim (fun h => absurd h (nn rfl)) (fun h => absurd h (nn rfl))))
        have h_14 := ir_59 hI2 (c 62 a2 + 30)
        have h_15 := fal_rng (m := c 49 (c 62 a2)) (t := c2 59 (c 62 a2 + 30)) (g := 0) (x := c2 59 (4 * a1)) (by omega)
        have h_16 := fal_rng (m := c 49 (c 62 a2)) (t := c2 59 (c 62 a2 + 30)) (g := 1) (x := c2 59 (4 * a1 + 1)) (by omega)
        have h_17 := fal_rng (m := c 49 (c 62 a2)) (t := c2 59 (c 62 a2 + 30)) (g := 2) (x := c2 59 (4 * a1 + 2)) (by omega)
        have h_18 := fal_rng (m := c 49 (c 62 a2)) (t := c2 59 (c 62 a2 + 30)) (g := 3) (x := c2 59 (4 * a1 + 3)) (by omega)
        refine v_cv rfl rfl rfl rfl (Nat.le_of_ble_eq_true rfl) ⟨⟨rfl, rfl⟩, Nat.le_of_ble_eq_true rfl, rfl⟩ (Nat.le_of_ble_eq_true rfl) (Nat.le_of_ble_eq_true rfl) (s_190 (v1 := c 49 (c 62 a2)) (v2 := c2 59 (c 62 a2 + 30)) (v3 := c2 59 (4 * a1)) (v4 := c2 59 (4 * a1 + 1)) (v5 := c2 59 (4 * a1 + 2)) (v6 := c2 59 (4 * a1 + 3)) (r := (fal (c 49 (c 62 a2)) (c2 59 (c 62 a2 + 30)) 0 (c2 59 (4 * a1))) + (fal (c 49 (c 62 a2)) (c2 59 (c 62 a2 + 30)) 1 (c2 59 (4 * a1 + 1))) + (fal (c 49 (c 62 a2)) (c2 59 (c 62 a2 + 30)) 2 (c2 59 (4 * a1 + 2))) + (fal (c 49 (c 62 a2)) (c2 59 (c 62 a2 + 30)) 3 (c2 59 (4 * a1 + 3)))) (a1 := c 62 a2) (a2 := a1) hIo (show 0 ≤ c 62 a2 ∧ c 62 a2 ≤ 3 from ⟨by first | exact q_eb3a7ad7a h_10 | (clear ha1 ha2 hv3 hx0 hx1 hx2 h_1 h_3 h_4 h_5 h_6 h_7 h_9; omega) | omega, by first | exact q_c99d6ea93 h_10 | (clear ha1 ha2 hv3 hx0 hx1 hx2 h_1 h_3 h_4 h_5 h_6 h_7 h_9; omega) | omega⟩) (show 0 ≤ a1 ∧ a1 ≤ 5 from ⟨by first | (clear ha1 ha2 hv3 hx0 hx2 h_1 h_3 h_4 h_5 h_6 h_7 h_10 h_9; omega) | omega, by first | (clear ha1 ha2 hv3 hx0 hx2 h_1 h_3 h_4 h_5 h_6 h_7 h_10 h_9; omega) | omega⟩) ((congrArg (c2 49) (show (c 62 a2) = c 62 a2 from by first | exact q_ef0f4cfe4 | assumption | exact Int.le_antisymm (by omega) (by omega))).trans (hid kn_13)) ((congrArg (c2 59) (show (c 62 a2) + 30 = c 62 a2 + 30 from by first | exact q_9182abc2f | assumption | exact Int.le_antisymm (by omega) (by omega)))) (rfl) (rfl) (rfl) (rfl) rfl (bk_inl ?_))
        refine v_isub (v := c2 59 (4 * a1 + 1) + c2 59 (4 * a1 + 2) + c2 59 (4 * a1 + 3) + c2 59 (4 * a1) - (fal (c 49 (c 62 a2)) (c2 59 (c 62 a2 + 30)) 0 (c2 59 (4 * a1))) - (fal (c 49 (c 62 a2)) (c2 59 (c 62 a2 + 30)) 1 (c2 59 (4 * a1 + 1))) - (fal (c 49 (c 62 a2)) (c2 59 (c 62 a2 + 30)) 2 (c2 59 (4 * a1 + 2))) - (fal (c 49 (c 62 a2)) (c2 59 (c 62 a2 + 30)) 3 (c2 59 (4 * a1 + 3)))) rfl (by first | (clear ha1 ha2 hv3 hx0 hx1 hx2 h_1 h_3 h_4 h_5 h_6 h_7 h_10 h_12 h_14 h_15 h_16 h_17 h_18 h_9; omega) | omega) (q_iret rfl rfl ?_)
        have hr_19 : ∀ j : Int, rs 59 j → c2 59 j + c2 59 (j + 1) + c2 59 (j + 2) + c2 59 (j + 3) ≤ 9999 := by
          intro j9 hj9
          obtain ⟨k9, rfl, hk9⟩ := rs_59 hj9
          by_cases e_20 : k9 = a1
          · skip
            have h_21 : c2 59 (4 * k9) = c2 59 (4 * a1) := (congrArg (c2 59) (show 4 * k9 = 4 * a1 from by first | assumption | exact Int.le_antisymm (by omega) (by omega)))
            have h_22 : c2 59 (4 * k9 + 1) = c2 59 (4 * a1 + 1) := (congrArg (c2 59) (show 4 * k9 + 1 = 4 * a1 + 1 from by first | assumption | exact Int.le_antisymm (by omega) (by omega)))
            have h_23 : c2 59 (4 * k9 + 2) = c2 59 (4 * a1 + 2) := (congrArg (c2 59) (show 4 * k9 + 2 = 4 * a1 + 2 from by first | assumption | exact Int.le_antisymm (by omega) (by omega)))
            have h_24 : c2 59 (4 * k9 + 3) = c2 59 (4 * a1 + 3) := (congrArg (c2 59) (show 4 * k9 + 3 = 4 * a1 + 3 from by first | assumption | exact Int.le_antisymm (by omega) (by omega)))
            omega
          have h_25 := iv_r hI2 59 (4 * k9) hj9 (by omega)
          have h_26 := ir_59_g hI2 (j := 4 * k9) (by first | (clear ha1 ha2 hv3 hx0 hx1 hx2 h_1 h_3 h_4 h_5 h_6 h_7 h_10 h_12 h_14 h_15 h_16 h_17 h_18 h_9; omega) | omega)
          have h_27 : c2 59 (4 * k9) = c2 59 (4 * k9) := rfl
          have h_28 := ir_59_g hI2 (j := 4 * k9 + 1) (by first | (clear ha1 ha2 hv3 hx0 hx1 hx2 h_1 h_3 h_4 h_5 h_6 h_7 h_10 h_12 h_14 h_15 h_16 h_17 h_18 h_26 h_9; omega) | omega)
          have h_29 : c2 59 (4 * k9 + 1) = c2 59 (4 * k9 + 1) := rfl
          have h_30 := ir_59_g hI2 (j := 4 * k9 + 2) (by first | (clear ha1 ha2 hv3 hx0 hx1 hx2 h_1 h_3 h_4 h_5 h_6 h_7 h_10 h_12 h_14 h_15 h_16 h_17 h_18 h_26 h_28 h_9; omega) | omega)
          have h_31 : c2 59 (4 * k9 + 2) = c2 59 (4 * k9 + 2) := rfl
          have h_32 := ir_59_g hI2 (j := 4 * k9 + 3) (by first | (clear ha1 ha2 hv3 hx0 hx1 hx2 h_1 h_3 h_4 h_5 h_6 h_7 h_10 h_12 h_14 h_15 h_16 h_17 h_18 h_26 h_28 h_30 h_9; omega) | omega)
          have h_33 : c2 59 (4 * k9 + 3) = c2 59 (4 * k9 + 3) := rfl
          omega
        have hI_34 := iv_close hIo hr_19
        exact K c2 (c2 59 (4 * a1 + 1) + c2 59 (4 * a1 + 2) + c2 59 (4 * a1 + 3) + c2 59 (4 * a1) - (fal (c 49 (c 62 a2)) (c2 59 (c 62 a2 + 30)) 0 (c2 59 (4 * a1))) - (fal (c 49 (c 62 a2)) (c2 59 (c 62 a2 + 30)) 1 (c2 59 (4 * a1 + 1))) - (fal (c 49 (c 62 a2)) (c2 59 (c 62 a2 + 30)) 2 (c2 59 (4 * a1 + 2))) - (fal (c 49 (c 62 a2)) (c2 59 (c 62 a2 + 30)) 3 (c2 59 (4 * a1 + 3)))) hI_34 (fun a j hm => hF a j (fun q => q.elim (fun h => hm (Or.inl h)) (fun q => q.elim (fun h => hm (Or.inr (Or.inl h))) (fun h => hm (Or.inr (Or.inr h)))))) ⟨by first | (clear ha1 ha2 hv3 hx0 hx1 hx2 h_1 h_3 h_4 h_5 h_6 h_7 h_10 h_12 h_14 h_9; omega) | omega, by first | (clear ha1 ha2 hv3 hx0 hx1 hx2 h_1 h_3 h_4 h_5 h_7 h_10 h_12 h_14 h_9; omega) | omega⟩
      · refine v_ic_ne_f (t := 119) rfl rfl (Decidable.not_not.mp h_9) (q_aload_n rfl rfl (q_iload_n rfl rfl (v_cv rfl rfl rfl rfl (Nat.le_of_ble_eq_true rfl) ⟨⟨rfl, rfl⟩, Nat.le_of_ble_eq_true rfl, rfl⟩ (Nat.le_of_ble_eq_true rfl) (Nat.le_of_ble_eq_true rfl) (s_187 (v1 := c2 59 (4 * a1)) (v2 := c2 59 (4 * a1 + 1)) (v3 := c2 59 (4 * a1 + 2)) (v4 := c2 59 (4 * a1 + 3)) (r := c2 59 (4 * a1 + 1) + c2 59 (4 * a1 + 2) + c2 59 (4 * a1 + 3) + c2 59 (4 * a1)) (a1 := a1) hIo (show 0 ≤ a1 ∧ a1 ≤ 5 from ⟨by omega, by omega⟩) (rfl) (rfl) (rfl) (rfl) (by omega) (bk_inl (q_goto (t := 136) rfl rfl (q_iret rfl rfl ?_)))))))
        have hr_35 : ∀ j : Int, rs 59 j → c2 59 j + c2 59 (j + 1) + c2 59 (j + 2) + c2 59 (j + 3) ≤ 9999 := by
          intro j9 hj9
          obtain ⟨k9, rfl, hk9⟩ := rs_59 hj9
          by_cases e_36 : k9 = a1
          · skip
            have h_37 : c2 59 (4 * k9) = c2 59 (4 * a1) := (congrArg (c2 59) (show 4 * k9 = 4 * a1 from by omega))
            have h_38 : c2 59 (4 * k9 + 1) = c2 59 (4 * a1 + 1) := (congrArg (c2 59) (show 4 * k9 + 1 = 4 * a1 + 1 from by omega))
            have h_39 : c2 59 (4 * k9 + 2) = c2 59 (4 * a1 + 2) := (congrArg (c2 59) (show 4 * k9 + 2 = 4 * a1 + 2 from by omega))
            have h_40 : c2 59 (4 * k9 + 3) = c2 59 (4 * a1 + 3) := (congrArg (c2 59) (show 4 * k9 + 3 = 4 * a1 + 3 from by omega))
            omega
          have h_41 := iv_r hI2 59 (4 * k9) hj9 (by omega)
          have h_42 := ir_59_g hI2 (j := 4 * k9) (by omega)
          have h_43 : c2 59 (4 * k9) = c2 59 (4 * k9) := rfl
          have h_44 := ir_59_g hI2 (j := 4 * k9 + 1) (by first | (clear ha1 ha2 hv3 hx0 hx1 hx2 h_1 h_3 h_4 h_5 h_6 h_7 h_9 h_42; omega) | omega)
          have h_45 : c2 59 (4 * k9 + 1) = c2 59 (4 * k9 + 1) := rfl
          have h_46 := ir_59_g hI2 (j := 4 * k9 + 2) (by first | (clear ha1 ha2 hv3 hx0 hx1 hx2 h_1 h_3 h_4 h_5 h_6 h_7 h_9 h_42 h_44; omega) | omega)
          have h_47 : c2 59 (4 * k9 + 2) = c2 59 (4 * k9 + 2) := rfl
          have h_48 := ir_59_g hI2 (j := 4 * k9 + 3) (by first | (clear ha1 ha2 hv3 hx0 hx1 hx2 h_1 h_3 h_4 h_5 h_6 h_7 h_9 h_42 h_44 h_46; omega) | omega)
          have h_49 : c2 59 (4 * k9 + 3) = c2 59 (4 * k9 + 3) := rfl
          omega
        have hI_50 := iv_close hIo hr_35
        exact K c2 (c2 59 (4 * a1 + 1) + c2 59 (4 * a1 + 2) + c2 59 (4 * a1 + 3) + c2 59 (4 * a1)) hI_50 (fun a j hm => hF a j (fun q => q.elim (fun h => hm (Or.inl h)) (fun q => q.elim (fun h => hm (Or.inr (Or.inl h))) (fun h => hm (Or.inr (Or.inr h)))))) ⟨by first | exact q_e052ef40e h_3 h_4 h_5 h_6 | omega, by omega⟩
    · refine v_ic_ge_f (t := 103) rfl rfl ⟨(Int.le_trans (by decide) hv3.1), (Int.not_le.mp h_7), ha2.2⟩ (q_iconst rfl (q_istore rfl (Nat.le_of_ble_eq_true rfl) (q_iload rfl rfl (q_iconst rfl (v_ic_ge_f (t := 97) rfl rfl (by decide) (q_aload_n rfl rfl (v_gr (t := 59) rfl rfl rfl (Nat.le_of_ble_eq_true rfl) rfl ?_)))))))
      refine q_iconst rfl (q_iload_n rfl rfl (v_imul (v := 4 * a1) rfl rfl (q_iload rfl rfl (v_iadd (v := 4 * a1) rfl (by omega) (q_aload_n rfl rfl (q_aload_n rfl rfl (v_gr (t := 62) rfl rfl rfl (Nat.le_of_ble_eq_true rfl) rfl ?_)))))))
      refine q_iload_n rfl rfl ?_
      have h_51 := ir_62 hI v3
      have kn_52 : Hid (c2 62 v3 = c 62 v3) := hF 62 v3 (fun q => q.elim (fun h => absurd h.1 (nn rfl)) (fun q => q.elim (fun h => absurd h (nn rfl)) (fun h => absurd h (nn rfl))))
      refine v_ia (v := c 62 v3) rfl rfl (by decide) (by decide) ⟨hv3.1, by omega⟩ (hid kn_52) (q_iload_n rfl rfl (q_iload rfl rfl ?_))
      have h_53 := ir_49 hI (c 62 v3)
      have kn_54 : Hid (c2 49 (c 62 v3) = c 49 (c 62 v3)) := hF 49 (c 62 v3) (fun q => q.elim (fun h => absurd h.1 (nn rfl)) (fun q => q.elim (fun h => absurd h (nn rfl)) (fun h => absurd h (nn rfl))))
      have h_55 := ir_59 hI2 (c 62 v3 + 30)
      have h_56 := fal_rng (m := c 49 (c 62 v3)) (t := c2 59 (c 62 v3 + 30)) (g := 0) (x := c2 59 (4 * a1)) (by omega)
      refine v_cv rfl rfl rfl rfl (Nat.le_of_ble_eq_true rfl) ⟨⟨rfl, rfl⟩, Nat.le_of_ble_eq_true rfl, rfl⟩ (Nat.le_of_ble_eq_true rfl) (Nat.le_of_ble_eq_true rfl) (s_189 (v1 := c 49 (c 62 v3)) (v2 := c2 59 (c 62 v3 + 30)) (v3 := c2 59 (4 * a1)) (r := (fal (c 49 (c 62 v3)) (c2 59 (c 62 v3 + 30)) 0 (c2 59 (4 * a1)))) (a1 := c 62 v3) (a2 := a1) (a3 := 0) hIo (show 0 ≤ c 62 v3 ∧ c 62 v3 ≤ 3 from ⟨by first | exact q_eb3a7ad7a h_51 | omega, by first | exact q_c99d6ea93 h_51 | omega⟩) (show 0 ≤ a1 ∧ a1 ≤ 5 from ⟨by omega, by omega⟩) (show 0 ≤ 0 ∧ 0 ≤ 3 from ⟨by decide, by decide⟩) ((congrArg (c2 49) (show (c 62 v3) = c 62 v3 from by first | exact q_ef0f4cfe4 | omega)).trans (hid kn_54)) ((congrArg (c2 59) (show (c 62 v3) + 30 = c 62 v3 + 30 from by first | exact q_9182abc2f | omega))) ((congrArg (c2 59) (show 4 * a1 + 0 = 4 * a1 from by first | exact q_8baad3eb5 | omega))) rfl (bk_inl (v_is rfl rfl (by decide) (by decide) ⟨by first | (clear ha1 ha2 hv3 hx0 hx2 h_1 h_3 h_4 h_5 h_6 h_7 h_51 h_53 h_55 h_56; omega) | omega, by first | (clear ha1 ha2 hv3 hx0 hx2 h_1 h_3 h_4 h_5 h_6 h_7 h_51 h_53 h_55 h_56; omega) | omega⟩ (v_iinc (v := 1) rfl rfl (Nat.le_of_ble_eq_true rfl) (by decide) (q_goto (t := 61) rfl rfl (q_iload rfl rfl (q_iconst rfl (v_ic_ge_f (t := 97) rfl rfl (by decide) ?_))))))))
      refine q_aload_n rfl rfl (v_gr (t := 59) rfl rfl rfl (Nat.le_of_ble_eq_true rfl) rfl (q_iconst rfl (q_iload_n rfl rfl (v_imul (v := 4 * a1) rfl rfl (q_iload rfl rfl (v_iadd (v := 4 * a1 + 1) rfl rfl (q_aload_n rfl rfl ?_)))))))
      refine q_aload_n rfl rfl (v_gr (t := 62) rfl rfl rfl (Nat.le_of_ble_eq_true rfl) rfl (q_iload_n rfl rfl (v_ia (v := c 62 v3) rfl rfl (by decide) (by decide) ⟨hv3.1, by first | (clear ha1 ha2 hv3 hx0 hx1 h_1 h_3 h_4 h_5 h_6 h_51 h_53 h_55 h_56; omega) | omega⟩ ((up_c (nn rfl)).trans (hid kn_52)) (q_iload_n rfl rfl (q_iload rfl rfl ?_)))))
      have hI_57 := iw_row (a := 59) (j := 4 * a1) (v := (fal (c 49 (c 62 v3)) (c2 59 (c 62 v3 + 30)) 0 (c2 59 (4 * a1)))) hIo (by omega) (Or.inl rfl) ⟨by omega, by omega, by omega⟩
      have h_58 := fal_rng (m := c 49 (c 62 v3)) (t := c2 59 (c 62 v3 + 30)) (g := 1) (x := c2 59 (4 * a1 + 1)) (by omega)
      refine v_cv rfl rfl rfl rfl (Nat.le_of_ble_eq_true rfl) ⟨⟨rfl, rfl⟩, Nat.le_of_ble_eq_true rfl, rfl⟩ (Nat.le_of_ble_eq_true rfl) (Nat.le_of_ble_eq_true rfl) (s_189 (v1 := c 49 (c 62 v3)) (v2 := c2 59 (c 62 v3 + 30)) (v3 := c2 59 (4 * a1 + 1)) (r := (fal (c 49 (c 62 v3)) (c2 59 (c 62 v3 + 30)) 1 (c2 59 (4 * a1 + 1)))) (a1 := c 62 v3) (a2 := a1) (a3 := 1) hI_57 (show 0 ≤ c 62 v3 ∧ c 62 v3 ≤ 3 from ⟨by first | exact q_eb3a7ad7a h_51 | (clear ha1 ha2 hv3 hx0 hx1 hx2 h_1 h_3 h_4 h_5 h_6 h_7 h_53 h_55 h_56; omega) | omega, by first | exact q_c99d6ea93 h_51 | (clear ha1 ha2 hv3 hx0 hx1 hx2 h_1 h_3 h_4 h_5 h_6 h_7 h_53 h_55 h_56; omega) | omega⟩) (show 0 ≤ a1 ∧ a1 ≤ 5 from ⟨by first | (clear ha1 ha2 hv3 hx0 hx2 h_1 h_3 h_4 h_5 h_6 h_7 h_51 h_53 h_55 h_56; omega) | omega, by first | (clear ha1 ha2 hv3 hx0 hx2 h_1 h_3 h_4 h_5 h_6 h_7 h_51 h_53 h_55 h_56; omega) | omega⟩) (show 0 ≤ 1 ∧ 1 ≤ 3 from ⟨by decide, by decide⟩) ((congrArg ((up c2 59 (4 * a1) (fal (c 49 (c 62 v3)) (c2 59 (c 62 v3 + 30)) 0 (c2 59 (4 * a1)))) 49) (show (c 62 v3) = c 62 v3 from by first | exact q_ef0f4cfe4 | omega)).trans ((up_c (nn rfl)).trans (hid kn_54))) ((congrArg ((up c2 59 (4 * a1) (fal (c 49 (c 62 v3)) (c2 59 (c 62 v3 + 30)) 0 (c2 59 (4 * a1)))) 59) (show (c 62 v3) + 30 = c 62 v3 + 30 from by first | exact q_9182abc2f | omega)).trans (up_n (by omega))) ((up_n (by first | exact ne_a0 (by decide) | omega))) rfl (bk_inl ?_))
      refine v_is rfl rfl (by decide) (by decide) ⟨by first | (clear ha1 ha2 hv3 hx0 hx2 h_1 h_3 h_4 h_5 h_6 h_7 h_51 h_53 h_55 h_56 h_58; omega) | omega, by first | (clear ha1 ha2 hv3 hx0 hx2 h_1 h_3 h_4 h_5 h_6 h_7 h_51 h_53 h_55 h_56 h_58; omega) | omega⟩ (v_iinc (v := 2) rfl rfl (Nat.le_of_ble_eq_true rfl) (by decide) (q_goto (t := 61) rfl rfl (q_iload rfl rfl (q_iconst rfl (v_ic_ge_f (t := 97) rfl rfl (by decide) (q_aload_n rfl rfl (v_gr (t := 59) rfl rfl rfl (Nat.le_of_ble_eq_true rfl) rfl ?_)))))))
      refine q_iconst rfl (q_iload_n rfl rfl (v_imul (v := 4 * a1) rfl rfl (q_iload rfl rfl (v_iadd (v := 4 * a1 + 2) rfl rfl (q_aload_n rfl rfl (q_aload_n rfl rfl (v_gr (t := 62) rfl rfl rfl (Nat.le_of_ble_eq_true rfl) rfl ?_)))))))
      refine q_iload_n rfl rfl (v_ia (v := c 62 v3) rfl rfl (by decide) (by decide) ⟨hv3.1, by first | (clear ha1 ha2 hv3 hx0 hx1 h_1 h_3 h_4 h_5 h_6 h_51 h_53 h_55 h_56 h_58; omega) | omega⟩ ((up_c (nn rfl)).trans ((up_c (nn rfl)).trans (hid kn_52))) (q_iload_n rfl rfl (q_iload rfl rfl ?_)))
      have hI_59 := iw_row (a := 59) (j := 4 * a1 + 1) (v := (fal (c 49 (c 62 v3)) (c2 59 (c 62 v3 + 30)) 1 (c2 59 (4 * a1 + 1)))) hI_57 (by omega) (Or.inl rfl) ⟨by omega, by omega, by omega⟩
      have h_60 := fal_rng (m := c 49 (c 62 v3)) (t := c2 59 (c 62 v3 + 30)) (g := 2) (x := c2 59 (4 * a1 + 2)) (by omega)
      refine v_cv rfl rfl rfl rfl (Nat.le_of_ble_eq_true rfl) ⟨⟨rfl, rfl⟩, Nat.le_of_ble_eq_true rfl, rfl⟩ (Nat.le_of_ble_eq_true rfl) (Nat.le_of_ble_eq_true rfl) (s_189 (v1 := c 49 (c 62 v3)) (v2 := c2 59 (c 62 v3 + 30)) (v3 := c2 59 (4 * a1 + 2)) (r := (fal (c 49 (c 62 v3)) (c2 59 (c 62 v3 + 30)) 2 (c2 59 (4 * a1 + 2)))) (a1 := c 62 v3) (a2 := a1) (a3 := 2) hI_59 (show 0 ≤ c 62 v3 ∧ c 62 v3 ≤ 3 from ⟨by first | exact q_eb3a7ad7a h_51 | (clear ha1 ha2 hv3 hx0 hx1 hx2 h_1 h_3 h_4 h_5 h_6 h_7 h_53 h_55 h_56 h_58; omega) | omega, by first | exact q_c99d6ea93 h_51 | (clear ha1 ha2 hv3 hx0 hx1 hx2 h_1 h_3 h_4 h_5 h_6 h_7 h_53 h_55 h_56 h_58; omega) | omega⟩) (show 0 ≤ a1 ∧ a1 ≤ 5 from ⟨by first | (clear ha1 ha2 hv3 hx0 hx2 h_1 h_3 h_4 h_5 h_6 h_7 h_51 h_53 h_55 h_56 h_58; omega) | omega, by first | (clear ha1 ha2 hv3 hx0 hx2 h_1 h_3 h_4 h_5 h_6 h_7 h_51 h_53 h_55 h_56 h_58; omega) | omega⟩) (show 0 ≤ 2 ∧ 2 ≤ 3 from ⟨by decide, by decide⟩) ((congrArg ((up (up c2 59 (4 * a1) (fal (c 49 (c 62 v3)) (c2 59 (c 62 v3 + 30)) 0 (c2 59 (4 * a1)))) 59 (4 * a1 + 1) (fal (c 49 (c 62 v3)) (c2 59 (c 62 v3 + 30)) 1 (c2 59 (4 * a1 + 1)))) 49) (show (c 62 v3) = c 62 v3 from by first | exact q_ef0f4cfe4 | omega)).trans ((up_c (nn rfl)).trans ((up_c (nn rfl)).trans (hid kn_54)))) ((congrArg ((up (up c2 59 (4 * a1) (fal (c 49 (c 62 v3)) (c2 59 (c 62 v3 + 30)) 0 (c2 59 (4 * a1)))) 59 (4 * a1 + 1) (fal (c 49 (c 62 v3)) (c2 59 (c 62 v3 + 30)) 1 (c2 59 (4 * a1 + 1)))) 59) (show (c 62 v3) + 30 = c 62 v3 + 30 from by first | exact q_9182abc2f | omega)).trans ((up_n (by omega)).trans (up_n (by omega)))) (((up_n (by first | exact ne_aa (by decide) | omega)).trans (up_n (by first | exact ne_a0 (by decide) | omega)))) rfl ?_)
      refine bk_inl (v_is rfl rfl (by decide) (by decide) ⟨by first | (clear ha1 ha2 hv3 hx0 hx2 h_1 h_3 h_4 h_5 h_6 h_7 h_51 h_53 h_55 h_56 h_58 h_60; omega) | omega, by first | (clear ha1 ha2 hv3 hx0 hx2 h_1 h_3 h_4 h_5 h_6 h_7 h_51 h_53 h_55 h_56 h_58 h_60; omega) | omega⟩ (v_iinc (v := 3) rfl rfl (Nat.le_of_ble_eq_true rfl) (by decide) (q_goto (t := 61) rfl rfl (q_iload rfl rfl (q_iconst rfl (v_ic_ge_f (t := 97) rfl rfl (by decide) (q_aload_n rfl rfl ?_)))))))
      refine v_gr (t := 59) rfl rfl rfl (Nat.le_of_ble_eq_true rfl) rfl (q_iconst rfl (q_iload_n rfl rfl (v_imul (v := 4 * a1) rfl rfl (q_iload rfl rfl (v_iadd (v := 4 * a1 + 3) rfl rfl (q_aload_n rfl rfl (q_aload_n rfl rfl ?_)))))))
      refine v_gr (t := 62) rfl rfl rfl (Nat.le_of_ble_eq_true rfl) rfl (q_iload_n rfl rfl (v_ia (v := c 62 v3) rfl rfl (by decide) (by decide) ⟨hv3.1, by first | (clear ha1 ha2 hv3 hx0 hx1 h_1 h_3 h_4 h_5 h_6 h_51 h_53 h_55 h_56 h_58 h_60; omega) | omega⟩ ((up_c (nn rfl)).trans ((up_c (nn rfl)).trans ((up_c (nn rfl)).trans (hid kn_52)))) (q_iload_n rfl rfl (q_iload rfl rfl ?_))))
      have hI_61 := iw_row (a := 59) (j := 4 * a1 + 2) (v := (fal (c 49 (c 62 v3)) (c2 59 (c 62 v3 + 30)) 2 (c2 59 (4 * a1 + 2)))) hI_59 (by omega) (Or.inl rfl) ⟨by omega, by omega, by omega⟩
      have h_62 := fal_rng (m := c 49 (c 62 v3)) (t := c2 59 (c 62 v3 + 30)) (g := 3) (x := c2 59 (4 * a1 + 3)) (by omega)
      refine v_cv rfl rfl rfl rfl (Nat.le_of_ble_eq_true rfl) ⟨⟨rfl, rfl⟩, Nat.le_of_ble_eq_true rfl, rfl⟩ (Nat.le_of_ble_eq_true rfl) (Nat.le_of_ble_eq_true rfl) (s_189 (v1 := c 49 (c 62 v3)) (v2 := c2 59 (c 62 v3 + 30)) (v3 := c2 59 (4 * a1 + 3)) (r := (fal (c 49 (c 62 v3)) (c2 59 (c 62 v3 + 30)) 3 (c2 59 (4 * a1 + 3)))) (a1 := c 62 v3) (a2 := a1) (a3 := 3) hI_61 (show 0 ≤ c 62 v3 ∧ c 62 v3 ≤ 3 from ⟨by first | exact q_eb3a7ad7a h_51 | (clear ha1 ha2 hv3 hx0 hx1 hx2 h_1 h_3 h_4 h_5 h_6 h_7 h_53 h_55 h_56 h_58 h_60; omega) | omega, by first | exact q_c99d6ea93 h_51 | (clear ha1 ha2 hv3 hx0 hx1 hx2 h_1 h_3 h_4 h_5 h_6 h_7 h_53 h_55 h_56 h_58 h_60; omega) | omega⟩) (show 0 ≤ a1 ∧ a1 ≤ 5 from ⟨by first | (clear ha1 ha2 hv3 hx0 hx2 h_1 h_3 h_4 h_5 h_6 h_7 h_51 h_53 h_55 h_56 h_58 h_60; omega) | omega, by first | (clear ha1 ha2 hv3 hx0 hx2 h_1 h_3 h_4 h_5 h_6 h_7 h_51 h_53 h_55 h_56 h_58 h_60; omega) | omega⟩) (show 0 ≤ 3 ∧ 3 ≤ 3 from ⟨by decide, by decide⟩) ((congrArg ((up (up (up c2 59 (4 * a1) (fal (c 49 (c 62 v3)) (c2 59 (c 62 v3 + 30)) 0 (c2 59 (4 * a1)))) 59 (4 * a1 + 1) (fal (c 49 (c 62 v3)) (c2 59 (c 62 v3 + 30)) 1 (c2 59 (4 * a1 + 1)))) 59 (4 * a1 + 2) (fal (c 49 (c 62 v3)) (c2 59 (c 62 v3 + 30)) 2 (c2 59 (4 * a1 + 2)))) 49) (show (c 62 v3) = c 62 v3 from by first | exact q_ef0f4cfe4 | omega)).trans ((up_c (nn rfl)).trans ((up_c (nn rfl)).trans ((up_c (nn rfl)).trans (hid kn_54))))) ((congrArg ((up (up (up c2 59 (4 * a1) (fal (c 49 (c 62 v3)) (c2 59 (c 62 v3 + 30)) 0 (c2 59 (4 * a1)))) 59 (4 * a1 + 1) (fal (c 49 (c 62 v3)) (c2 59 (c 62 v3 + 30)) 1 (c2 59 (4 * a1 + 1)))) 59 (4 * a1 + 2) (fal (c 49 (c 62 v3)) (c2 59 (c 62 v3 + 30)) 2 (c2 59 (4 * a1 + 2)))) 59) (show (c 62 v3) + 30 = c 62 v3 + 30 from by first | exact q_9182abc2f | omega)).trans ((up_n (by omega)).trans ((up_n (by omega)).trans (up_n (by omega))))) (((up_n (by first | exact ne_aa (by decide) | omega)).trans ((up_n (by first | exact ne_aa (by decide) | omega)).trans (up_n (by first | exact ne_a0 (by decide) | omega))))) rfl ?_)
      refine bk_inl (v_is rfl rfl (by decide) (by decide) ⟨by first | (clear ha1 ha2 hv3 hx0 hx2 h_1 h_3 h_4 h_5 h_6 h_7 h_51 h_53 h_55 h_56 h_58 h_60 h_62; omega) | omega, by first | (clear ha1 ha2 hv3 hx0 hx2 h_1 h_3 h_4 h_5 h_6 h_7 h_51 h_53 h_55 h_56 h_58 h_60 h_62; omega) | omega⟩ (v_iinc (v := 4) rfl rfl (Nat.le_of_ble_eq_true rfl) (by decide) (Wp_ls [(4, vi 4), (0, .ref 41), (1, vi a1), (2, vi a2), (3, vi v3)] (lsub_cons rfl (lsub_cons rfl (lsub_cons rfl (lsub_cons rfl (lsub_cons rfl lsub_nil))))) (q_goto (t := 61) rfl rfl (q_iload rfl rfl (q_iconst rfl (v_ic_ge_t (t := 97) rfl rfl (by decide) ?_)))))))
      refine v_iinc (v := v3 + 1) rfl rfl (Nat.le_of_ble_eq_true rfl) rfl (q_goto (t := 53) rfl rfl ?_)
      have hI_63 := iw_row (a := 59) (j := 4 * a1 + 3) (v := (fal (c 49 (c 62 v3)) (c2 59 (c 62 v3 + 30)) 3 (c2 59 (4 * a1 + 3)))) hI_61 (by omega) (Or.inl rfl) ⟨by omega, by omega, by omega⟩
      have hr_64 : ∀ j : Int, rs 59 j → (up (up (up (up c2 59 (4 * a1) (fal (c 49 (c 62 v3)) (c2 59 (c 62 v3 + 30)) 0 (c2 59 (4 * a1)))) 59 (4 * a1 + 1) (fal (c 49 (c 62 v3)) (c2 59 (c 62 v3 + 30)) 1 (c2 59 (4 * a1 + 1)))) 59 (4 * a1 + 2) (fal (c 49 (c 62 v3)) (c2 59 (c 62 v3 + 30)) 2 (c2 59 (4 * a1 + 2)))) 59 (4 * a1 + 3) (fal (c 49 (c 62 v3)) (c2 59 (c 62 v3 + 30)) 3 (c2 59 (4 * a1 + 3)))) 59 j + (up (up (up (up c2 59 (4 * a1) (fal (c 49 (c 62 v3)) (c2 59 (c 62 v3 + 30)) 0 (c2 59 (4 * a1)))) 59 (4 * a1 + 1) (fal (c 49 (c 62 v3)) (c2 59 (c 62 v3 + 30)) 1 (c2 59 (4 * a1 + 1)))) 59 (4 * a1 + 2) (fal (c 49 (c 62 v3)) (c2 59 (c 62 v3 + 30)) 2 (c2 59 (4 * a1 + 2)))) 59 (4 * a1 + 3) (fal (c 49 (c 62 v3)) (c2 59 (c 62 v3 + 30)) 3 (c2 59 (4 * a1 + 3)))) 59 (j + 1) + (up (up (up (up c2 59 (4 * a1) (fal (c 49 (c 62 v3)) (c2 59 (c 62 v3 + 30)) 0 (c2 59 (4 * a1)))) 59 (4 * a1 + 1) (fal (c 49 (c 62 v3)) (c2 59 (c 62 v3 + 30)) 1 (c2 59 (4 * a1 + 1)))) 59 (4 * a1 + 2) (fal (c 49 (c 62 v3)) (c2 59 (c 62 v3 + 30)) 2 (c2 59 (4 * a1 + 2)))) 59 (4 * a1 + 3) (fal (c 49 (c 62 v3)) (c2 59 (c 62 v3 + 30)) 3 (c2 59 (4 * a1 + 3)))) 59 (j + 2) + (up (up (up (up c2 59 (4 * a1) (fal (c 49 (c 62 v3)) (c2 59 (c 62 v3 + 30)) 0 (c2 59 (4 * a1)))) 59 (4 * a1 + 1) (fal (c 49 (c 62 v3)) (c2 59 (c 62 v3 + 30)) 1 (c2 59 (4 * a1 + 1)))) 59 (4 * a1 + 2) (fal (c 49 (c 62 v3)) (c2 59 (c 62 v3 + 30)) 2 (c2 59 (4 * a1 + 2)))) 59 (4 * a1 + 3) (fal (c 49 (c 62 v3)) (c2 59 (c 62 v3 + 30)) 3 (c2 59 (4 * a1 + 3)))) 59 (j + 3) ≤ 9999 := by
        intro j9 hj9
        obtain ⟨k9, rfl, hk9⟩ := rs_59 hj9
        by_cases e_65 : k9 = a1
        · skip
          have h_66 : (up (up (up (up c2 59 (4 * a1) (fal (c 49 (c 62 v3)) (c2 59 (c 62 v3 + 30)) 0 (c2 59 (4 * a1)))) 59 (4 * a1 + 1) (fal (c 49 (c 62 v3)) (c2 59 (c 62 v3 + 30)) 1 (c2 59 (4 * a1 + 1)))) 59 (4 * a1 + 2) (fal (c 49 (c 62 v3)) (c2 59 (c 62 v3 + 30)) 2 (c2 59 (4 * a1 + 2)))) 59 (4 * a1 + 3) (fal (c 49 (c 62 v3)) (c2 59 (c 62 v3 + 30)) 3 (c2 59 (4 * a1 + 3)))) 59 (4 * k9) = (fal (c 49 (c 62 v3)) (c2 59 (c 62 v3 + 30)) 0 (c2 59 (4 * a1))) := (congrArg ((up (up (up (up c2 59 (4 * a1) (fal (c 49 (c 62 v3)) (c2 59 (c 62 v3 + 30)) 0 (c2 59 (4 * a1)))) 59 (4 * a1 + 1) (fal (c 49 (c 62 v3)) (c2 59 (c 62 v3 + 30)) 1 (c2 59 (4 * a1 + 1)))) 59 (4 * a1 + 2) (fal (c 49 (c 62 v3)) (c2 59 (c 62 v3 + 30)) 2 (c2 59 (4 * a1 + 2)))) 59 (4 * a1 + 3) (fal (c 49 (c 62 v3)) (c2 59 (c 62 v3 + 30)) 3 (c2 59 (4 * a1 + 3)))) 59) (show 4 * k9 = 4 * a1 from by omega)).trans ((up_n (by first | exact ne_0a (by decide) | omega)).trans ((up_n (by first | exact ne_0a (by decide) | omega)).trans ((up_n (by first | exact ne_0a (by decide) | omega)).trans (up_e rfl))))
          have h_67 : (up (up (up (up c2 59 (4 * a1) (fal (c 49 (c 62 v3)) (c2 59 (c 62 v3 + 30)) 0 (c2 59 (4 * a1)))) 59 (4 * a1 + 1) (fal (c 49 (c 62 v3)) (c2 59 (c 62 v3 + 30)) 1 (c2 59 (4 * a1 + 1)))) 59 (4 * a1 + 2) (fal (c 49 (c 62 v3)) (c2 59 (c 62 v3 + 30)) 2 (c2 59 (4 * a1 + 2)))) 59 (4 * a1 + 3) (fal (c 49 (c 62 v3)) (c2 59 (c 62 v3 + 30)) 3 (c2 59 (4 * a1 + 3)))) 59 (4 * k9 + 1) = (fal (c 49 (c 62 v3)) (c2 59 (c 62 v3 + 30)) 1 (c2 59 (4 * a1 + 1))) := (congrArg ((up (up (up (up c2 59 (4 * a1) (fal (c 49 (c 62 v3)) (c2 59 (c 62 v3 + 30)) 0 (c2 59 (4 * a1)))) 59 (4 * a1 + 1) (fal (c 49 (c 62 v3)) (c2 59 (c 62 v3 + 30)) 1 (c2 59 (4 * a1 + 1)))) 59 (4 * a1 + 2) (fal (c 49 (c 62 v3)) (c2 59 (c 62 v3 + 30)) 2 (c2 59 (4 * a1 + 2)))) 59 (4 * a1 + 3) (fal (c 49 (c 62 v3)) (c2 59 (c 62 v3 + 30)) 3 (c2 59 (4 * a1 + 3)))) 59) (show 4 * k9 + 1 = 4 * a1 + 1 from by omega)).trans ((up_n (by first | exact ne_aa (by decide) | omega)).trans ((up_n (by first | exact ne_aa (by decide) | omega)).trans (up_e rfl)))
          have h_68 : (up (up (up (up c2 59 (4 * a1) (fal (c 49 (c 62 v3)) (c2 59 (c 62 v3 + 30)) 0 (c2 59 (4 * a1)))) 59 (4 * a1 + 1) (fal (c 49 (c 62 v3)) (c2 59 (c 62 v3 + 30)) 1 (c2 59 (4 * a1 + 1)))) 59 (4 * a1 + 2) (fal (c 49 (c 62 v3)) (c2 59 (c 62 v3 + 30)) 2 (c2 59 (4 * a1 + 2)))) 59 (4 * a1 + 3) (fal (c 49 (c 62 v3)) (c2 59 (c 62 v3 + 30)) 3 (c2 59 (4 * a1 + 3)))) 59 (4 * k9 + 2) = (fal (c 49 (c 62 v3)) (c2 59 (c 62 v3 + 30)) 2 (c2 59 (4 * a1 + 2))) := (congrArg ((up (up (up (up c2 59 (4 * a1) (fal (c 49 (c 62 v3)) (c2 59 (c 62 v3 + 30)) 0 (c2 59 (4 * a1)))) 59 (4 * a1 + 1) (fal (c 49 (c 62 v3)) (c2 59 (c 62 v3 + 30)) 1 (c2 59 (4 * a1 + 1)))) 59 (4 * a1 + 2) (fal (c 49 (c 62 v3)) (c2 59 (c 62 v3 + 30)) 2 (c2 59 (4 * a1 + 2)))) 59 (4 * a1 + 3) (fal (c 49 (c 62 v3)) (c2 59 (c 62 v3 + 30)) 3 (c2 59 (4 * a1 + 3)))) 59) (show 4 * k9 + 2 = 4 * a1 + 2 from by omega)).trans ((up_n (by first | exact ne_aa (by decide) | omega)).trans (up_e rfl))
          have h_69 : (up (up (up (up c2 59 (4 * a1) (fal (c 49 (c 62 v3)) (c2 59 (c 62 v3 + 30)) 0 (c2 59 (4 * a1)))) 59 (4 * a1 + 1) (fal (c 49 (c 62 v3)) (c2 59 (c 62 v3 + 30)) 1 (c2 59 (4 * a1 + 1)))) 59 (4 * a1 + 2) (fal (c 49 (c 62 v3)) (c2 59 (c 62 v3 + 30)) 2 (c2 59 (4 * a1 + 2)))) 59 (4 * a1 + 3) (fal (c 49 (c 62 v3)) (c2 59 (c 62 v3 + 30)) 3 (c2 59 (4 * a1 + 3)))) 59 (4 * k9 + 3) = (fal (c 49 (c 62 v3)) (c2 59 (c 62 v3 + 30)) 3 (c2 59 (4 * a1 + 3))) := (congrArg ((up (up (up (up c2 59 (4 * a1) (fal (c 49 (c 62 v3)) (c2 59 (c 62 v3 + 30)) 0 (c2 59 (4 * a1)))) 59 (4 * a1 + 1) (fal (c 49 (c 62 v3)) (c2 59 (c 62 v3 + 30)) 1 (c2 59 (4 * a1 + 1)))) 59 (4 * a1 + 2) (fal (c 49 (c 62 v3)) (c2 59 (c 62 v3 + 30)) 2 (c2 59 (4 * a1 + 2)))) 59 (4 * a1 + 3) (fal (c 49 (c 62 v3)) (c2 59 (c 62 v3 + 30)) 3 (c2 59 (4 * a1 + 3)))) 59) (show 4 * k9 + 3 = 4 * a1 + 3 from by omega)).trans (up_e rfl)
          omega
        have h_70 := iv_r hI2 59 (4 * k9) hj9 (by omega)
        have h_71 := ir_59_g hI2 (j := 4 * k9) (by first | (clear ha1 ha2 hv3 hx0 hx1 hx2 h_1 h_3 h_4 h_5 h_6 h_7 h_51 h_53 h_55 h_56 h_58 h_60 h_62; omega) | omega)
        have h_72 : (up (up (up (up c2 59 (4 * a1) (fal (c 49 (c 62 v3)) (c2 59 (c 62 v3 + 30)) 0 (c2 59 (4 * a1)))) 59 (4 * a1 + 1) (fal (c 49 (c 62 v3)) (c2 59 (c 62 v3 + 30)) 1 (c2 59 (4 * a1 + 1)))) 59 (4 * a1 + 2) (fal (c 49 (c 62 v3)) (c2 59 (c 62 v3 + 30)) 2 (c2 59 (4 * a1 + 2)))) 59 (4 * a1 + 3) (fal (c 49 (c 62 v3)) (c2 59 (c 62 v3 + 30)) 3 (c2 59 (4 * a1 + 3)))) 59 (4 * k9) = c2 59 (4 * k9) := ((up_n (by omega)).trans ((up_n (by omega)).trans ((up_n (by omega)).trans (up_n (by omega)))))
        have h_73 := ir_59_g hI2 (j := 4 * k9 + 1) (by first | (clear ha1 ha2 hv3 hx0 hx1 hx2 h_1 h_3 h_4 h_5 h_6 h_7 h_51 h_53 h_55 h_56 h_58 h_60 h_62 h_71; omega) | omega)
        have h_74 : (up (up (up (up c2 59 (4 * a1) (fal (c 49 (c 62 v3)) (c2 59 (c 62 v3 + 30)) 0 (c2 59 (4 * a1)))) 59 (4 * a1 + 1) (fal (c 49 (c 62 v3)) (c2 59 (c 62 v3 + 30)) 1 (c2 59 (4 * a1 + 1)))) 59 (4 * a1 + 2) (fal (c 49 (c 62 v3)) (c2 59 (c 62 v3 + 30)) 2 (c2 59 (4 * a1 + 2)))) 59 (4 * a1 + 3) (fal (c 49 (c 62 v3)) (c2 59 (c 62 v3 + 30)) 3 (c2 59 (4 * a1 + 3)))) 59 (4 * k9 + 1) = c2 59 (4 * k9 + 1) := ((up_n (by omega)).trans ((up_n (by omega)).trans ((up_n (by omega)).trans (up_n (by omega)))))
        have h_75 := ir_59_g hI2 (j := 4 * k9 + 2) (by first | (clear ha1 ha2 hv3 hx0 hx1 hx2 h_1 h_3 h_4 h_5 h_6 h_7 h_51 h_53 h_55 h_56 h_58 h_60 h_62 h_71 h_73; omega) | omega)
        have h_76 : (up (up (up (up c2 59 (4 * a1) (fal (c 49 (c 62 v3)) (c2 59 (c 62 v3 + 30)) 0 (c2 59 (4 * a1)))) 59 (4 * a1 + 1) (fal (c 49 (c 62 v3)) (c2 59 (c 62 v3 + 30)) 1 (c2 59 (4 * a1 + 1)))) 59 (4 * a1 + 2) (fal (c 49 (c 62 v3)) (c2 59 (c 62 v3 + 30)) 2 (c2 59 (4 * a1 + 2)))) 59 (4 * a1 + 3) (fal (c 49 (c 62 v3)) (c2 59 (c 62 v3 + 30)) 3 (c2 59 (4 * a1 + 3)))) 59 (4 * k9 + 2) = c2 59 (4 * k9 + 2) := ((up_n (by omega)).trans ((up_n (by omega)).trans ((up_n (by omega)).trans (up_n (by omega)))))
        have h_77 := ir_59_g hI2 (j := 4 * k9 + 3) (by first | (clear ha1 ha2 hv3 hx0 hx1 hx2 h_1 h_3 h_4 h_5 h_6 h_7 h_51 h_53 h_55 h_56 h_58 h_60 h_62 h_71 h_73 h_75; omega) | omega)
        have h_78 : (up (up (up (up c2 59 (4 * a1) (fal (c 49 (c 62 v3)) (c2 59 (c 62 v3 + 30)) 0 (c2 59 (4 * a1)))) 59 (4 * a1 + 1) (fal (c 49 (c 62 v3)) (c2 59 (c 62 v3 + 30)) 1 (c2 59 (4 * a1 + 1)))) 59 (4 * a1 + 2) (fal (c 49 (c 62 v3)) (c2 59 (c 62 v3 + 30)) 2 (c2 59 (4 * a1 + 2)))) 59 (4 * a1 + 3) (fal (c 49 (c 62 v3)) (c2 59 (c 62 v3 + 30)) 3 (c2 59 (4 * a1 + 3)))) 59 (4 * k9 + 3) = c2 59 (4 * k9 + 3) := ((up_n (by omega)).trans ((up_n (by omega)).trans ((up_n (by omega)).trans (up_n (by omega)))))
        omega
      have hI_79 := iv_close hI_63 hr_64
      refine Wp_ls [(0, .ref 41), (1, vi a1), (2, vi a2), (3, vi (v3 + 1))] (lsub_cons rfl (lsub_cons rfl (lsub_cons rfl (lsub_cons rfl lsub_nil)))) ?_
      exact ih (up (up (up (up c2 59 (4 * a1) (fal (c 49 (c 62 v3)) (c2 59 (c 62 v3 + 30)) 0 (c2 59 (4 * a1)))) 59 (4 * a1 + 1) (fal (c 49 (c 62 v3)) (c2 59 (c 62 v3 + 30)) 1 (c2 59 (4 * a1 + 1)))) 59 (4 * a1 + 2) (fal (c 49 (c 62 v3)) (c2 59 (c 62 v3 + 30)) 2 (c2 59 (4 * a1 + 2)))) 59 (4 * a1 + 3) (fal (c 49 (c 62 v3)) (c2 59 (c 62 v3 + 30)) 3 (c2 59 (4 * a1 + 3)))) (v3 + 1) hI_79 (fun a j hm => (up_b (Decidable.or_iff_not_imp_left.mpr (fun h1 h2 => hm (Or.inr (Or.inr (Decidable.not_not.mp h1)))))).trans ((up_b (Decidable.or_iff_not_imp_left.mpr (fun h1 h2 => hm (Or.inr (Or.inr (Decidable.not_not.mp h1)))))).trans ((up_b (Decidable.or_iff_not_imp_left.mpr (fun h1 h2 => hm (Or.inr (Or.inr (Decidable.not_not.mp h1)))))).trans ((up_b (Decidable.or_iff_not_imp_left.mpr (fun h1 h2 => hm (Or.inr (Or.inr (Decidable.not_not.mp h1)))))).trans (hF a j (fun q => q.elim (fun h => hm (Or.inl h)) (fun q => q.elim (fun h => hm (Or.inr (Or.inl h))) (fun h => hm (Or.inr (Or.inr h)))))))))) ⟨by first | exact rgp_l hv3.1 (by decide) | omega, by first | (clear ha1 ha2 hv3 hx0 hx1 h_1 h_3 h_4 h_5 h_6 h_51 h_53 h_55 h_56 h_58 h_60 h_62; omega) | omega⟩ (by first | (clear ha1 ha2 hv3 hx1 hx2 h_1 h_3 h_4 h_5 h_6 h_7 h_51 h_53 h_55 h_56 h_58 h_60 h_62; omega) | omega) ⟨by first | (clear ha1 ha2 hv3 hx0 hx2 h_1 h_3 h_4 h_5 h_6 h_7 h_51 h_53 h_55 h_56 h_58 h_60 h_62; omega) | omega, by first | (clear ha1 ha2 hv3 hx0 hx2 h_1 h_3 h_4 h_5 h_6 h_7 h_51 h_53 h_55 h_56 h_58 h_60 h_62; omega) | omega⟩ ⟨by first | exact q_1fe14b988 h_7 hv3 | (clear ha1 ha2 hx0 hx1 hx2 h_1 h_3 h_4 h_5 h_6 h_51 h_53 h_55 h_56 h_58 h_60 h_62; omega) | omega, by first | (clear ha1 ha2 hv3 hx0 hx1 h_1 h_3 h_4 h_5 h_6 h_7 h_51 h_53 h_55 h_56 h_58 h_60 h_62; omega) | omega⟩ (by omega)
set_option maxRecDepth 100000 in
set_option maxHeartbeats 4000000 in
theorem s_221 {sc : List Int32} {d P Q : Nat} {c : ME} {a1 : Int} {a2 : Int} {Z : AR → Prop} (hI : Iv 0 (-1) P Q c) (ha1 : (-2147483648) ≤ a1 ∧ a1 ≤ 2147483647) (ha2 : (-2147483648) ≤ a2 ∧ a2 ≤ 2147483647) (K : ∀ (c2 : ME) (y : Int), Iv 0 (-1) P Q c2 → (∀ (a : Nat) (j : Int), ¬ ((a = 41 ∧ j = 0) ∨ a = 42 ∨ a = 59) → c2 a j = c a j) → (-2147483648) ≤ y ∧ y ≤ 2147483647 → Z (.inl (some (vi y)), Wd P Q P P c2, 0, 0)) : Wp sc (d + 9) 221 0 [(0, .ref 41), (1, vi a1), (2, vi a2)] [] (Wd P Q P P c) 0 0 Z := by
  have hP := iv_P hI
  have hQ := iv_Q hI
  refine q_aload_n rfl rfl (q_iconst rfl (v_pi (z := 0) rfl rfl rfl (Nat.le_of_ble_eq_true rfl) rfl rfl rfl (by decide) (q_aload_n rfl rfl (q_iload_n rfl rfl (q_aload_n rfl rfl ?_)))))
  have h_80 := ir_41_20 hI
  refine v_gi (z := 20) (v := c 41 20) rfl rfl rfl (Nat.le_of_ble_eq_true rfl) rfl rfl (up_n (by decide)) (v_cv rfl rfl rfl rfl (Nat.le_of_ble_eq_true rfl) ⟨⟨rfl, rfl⟩, Nat.le_of_ble_eq_true rfl, rfl⟩ (Nat.le_of_ble_eq_true rfl) (Nat.le_of_ble_eq_true rfl) (q_aload_n rfl rfl (q_iload_n rfl rfl (q_iconst rfl (q_iload_n rfl rfl (q_iconst rfl (v_isub (v := c 41 20 - 1) rfl rfl ?_)))))))
  refine q_call rfl rfl rfl rfl (q_iload_n rfl rfl (q_iload_n rfl rfl ?_))
  by_cases h_81 : a1 < 0
  · refine v_ic_lt_t (t := 14) rfl rfl ⟨ha1.1, h_81, by decide⟩ (q_iconst rfl (v_zret rfl rfl (by decide) (bk_inl (q_iconst rfl (q_iconst rfl (v_cv rfl rfl rfl rfl (Nat.le_of_ble_eq_true rfl) ⟨⟨rfl, rfl⟩, Nat.le_of_ble_eq_true rfl, rfl⟩ (Nat.le_of_ble_eq_true rfl) (Nat.le_of_ble_eq_true rfl) (q_iload_n rfl rfl ?_)))))))
    refine v_if_ne_f (t := 26) rfl rfl (by decide) (q_aload_n rfl rfl (v_gi (z := 0) (v := 0) rfl rfl rfl (Nat.le_of_ble_eq_true rfl) rfl rfl (up_e rfl) (v_if_ne_f (t := 26) rfl rfl (by decide) (q_aload_n rfl rfl (q_iload_n rfl rfl (v_pi (z := 0) rfl rfl rfl (Nat.le_of_ble_eq_true rfl) rfl rfl rfl (by decide) (q_aload_n rfl rfl ?_)))))))
    refine v_gr (t := 42) rfl rfl rfl (Nat.le_of_ble_eq_true rfl) rfl (q_iload_n rfl rfl (q_dup2 rfl ⟨rfl, rfl⟩ ?_))
    have h_82 := ir_42 hI 0
    refine v_ia (v := c 42 0) rfl rfl (by decide) (by decide) (by decide) ((up_c (nn rfl)).trans (up_c (nn rfl))) (q_iconst rfl (v_iadd (v := c 42 0 + 1) rfl rfl (v_nrm (fun y_83 hy_83 => (v_is rfl rfl (by decide) (by decide) (by decide) (q_aload_n rfl rfl (v_gi (z := 0) (v := 1) rfl rfl rfl (Nat.le_of_ble_eq_true rfl) rfl rfl ((up_c (nn rfl)).trans (up_e rfl)) (v_if_ne_t (t := 37) rfl rfl (by decide) ?_))))))))
    refine q_iconst rfl (v_zret rfl rfl (by decide) (bk_inl (v_zret rfl rfl (by decide) (bk_inl (v_if_eq_t (t := 35) rfl rfl (by decide) (q_iconst rfl (q_iret rfl rfl ?_)))))))
    have hI_84 := iw_41_0 (v := 0) hI ⟨by decide, by decide⟩
    have hI_85 := iw_41_0 (v := 1) hI_84 ⟨by decide, by decide⟩
    have hI_86 := iw_42 (j := 0) (v := y_83) hI_85 ⟨hy_83.1, hy_83.2⟩
    exact K (up (up (up c 41 0 0) 41 0 1) 42 0 y_83) 0 hI_86 (fun a j hm => (up_b (Decidable.or_iff_not_imp_left.mpr (fun h1 h2 => hm (Or.inr (Or.inl (Decidable.not_not.mp h1)))))).trans ((up_b (Decidable.or_iff_not_imp_left.mpr (fun h1 h2 => hm (Or.inl ⟨Decidable.not_not.mp h1, h2⟩)))).trans (up_b (Decidable.or_iff_not_imp_left.mpr (fun h1 h2 => hm (Or.inl ⟨Decidable.not_not.mp h1, h2⟩)))))) ⟨by decide, by decide⟩
  · refine v_ic_lt_f (t := 14) rfl rfl ⟨by decide, (Int.not_lt.mp h_81), ha1.2⟩ (q_iload_n rfl rfl (q_iload_n rfl rfl ?_))
    by_cases h_87 : a1 > c 41 20 - 1
    · refine v_ic_gt_t (t := 14) rfl rfl ⟨by first | exact rgm_l h_80.1 (by decide) | omega, h_87, ha1.2⟩ (q_iconst rfl (v_zret rfl rfl (by decide) (bk_inl (q_iconst rfl (q_iconst rfl (v_cv rfl rfl rfl rfl (Nat.le_of_ble_eq_true rfl) ⟨⟨rfl, rfl⟩, Nat.le_of_ble_eq_true rfl, rfl⟩ (Nat.le_of_ble_eq_true rfl) (Nat.le_of_ble_eq_true rfl) (q_iload_n rfl rfl ?_)))))))
      refine v_if_ne_f (t := 26) rfl rfl (by decide) (q_aload_n rfl rfl (v_gi (z := 0) (v := 0) rfl rfl rfl (Nat.le_of_ble_eq_true rfl) rfl rfl (up_e rfl) (v_if_ne_f (t := 26) rfl rfl (by decide) (q_aload_n rfl rfl (q_iload_n rfl rfl (v_pi (z := 0) rfl rfl rfl (Nat.le_of_ble_eq_true rfl) rfl rfl rfl (by decide) (q_aload_n rfl rfl ?_)))))))
      refine v_gr (t := 42) rfl rfl rfl (Nat.le_of_ble_eq_true rfl) rfl (q_iload_n rfl rfl (q_dup2 rfl ⟨rfl, rfl⟩ ?_))
      have h_88 := ir_42 hI 0
      refine v_ia (v := c 42 0) rfl rfl (by decide) (by decide) (by decide) ((up_c (nn rfl)).trans (up_c (nn rfl))) (q_iconst rfl (v_iadd (v := c 42 0 + 1) rfl rfl (v_nrm (fun y_89 hy_89 => (v_is rfl rfl (by decide) (by decide) (by decide) (q_aload_n rfl rfl (v_gi (z := 0) (v := 1) rfl rfl rfl (Nat.le_of_ble_eq_true rfl) rfl rfl ((up_c (nn rfl)).trans (up_e rfl)) (v_if_ne_t (t := 37) rfl rfl (by decide) ?_))))))))
      refine q_iconst rfl (v_zret rfl rfl (by decide) (bk_inl (v_zret rfl rfl (by decide) (bk_inl (v_if_eq_t (t := 35) rfl rfl (by decide) (q_iconst rfl (q_iret rfl rfl ?_)))))))
      have hI_90 := iw_41_0 (v := 0) hI ⟨by decide, by decide⟩
      have hI_91 := iw_41_0 (v := 1) hI_90 ⟨by decide, by decide⟩
      have hI_92 := iw_42 (j := 0) (v := y_89) hI_91 ⟨hy_89.1, hy_89.2⟩
      exact K (up (up (up c 41 0 0) 41 0 1) 42 0 y_89) 0 hI_92 (fun a j hm => (up_b (Decidable.or_iff_not_imp_left.mpr (fun h1 h2 => hm (Or.inr (Or.inl (Decidable.not_not.mp h1)))))).trans ((up_b (Decidable.or_iff_not_imp_left.mpr (fun h1 h2 => hm (Or.inl ⟨Decidable.not_not.mp h1, h2⟩)))).trans (up_b (Decidable.or_iff_not_imp_left.mpr (fun h1 h2 => hm (Or.inl ⟨Decidable.not_not.mp h1, h2⟩)))))) ⟨by decide, by decide⟩
    · refine v_ic_gt_f (t := 14) rfl rfl ⟨ha1.1, (Int.not_lt.mp h_87), by first | exact rgm_h h_80.2 (by decide) | omega⟩ (q_iconst rfl (q_goto (t := 15) rfl rfl (v_zret rfl rfl (by decide) (bk_inl (q_iconst rfl (q_iconst rfl (v_cv rfl rfl rfl rfl (Nat.le_of_ble_eq_true rfl) ⟨⟨rfl, rfl⟩, Nat.le_of_ble_eq_true rfl, rfl⟩ (Nat.le_of_ble_eq_true rfl) (Nat.le_of_ble_eq_true rfl) ?_)))))))
      refine q_iload_n rfl rfl (v_if_ne_t (t := 26) rfl rfl (by decide) (q_aload_n rfl rfl (v_gi (z := 0) (v := 0) rfl rfl rfl (Nat.le_of_ble_eq_true rfl) rfl rfl (up_e rfl) (v_if_ne_f (t := 37) rfl rfl (by decide) (q_iconst rfl (q_goto (t := 38) rfl rfl (v_zret rfl rfl (by decide) ?_)))))))
      refine bk_inl (v_zret rfl rfl (by decide) (bk_inl (v_if_eq_f (t := 35) rfl rfl (by decide) (q_aload_n rfl rfl (q_iload_n rfl rfl ?_)))))
      by_cases h_93 : a2 < 0
      · refine v_if_lt_t (t := 26) rfl rfl ⟨ha2.1, h_93, by decide⟩ (q_iconst rfl (q_iconst rfl (q_iconst rfl (v_cv rfl rfl rfl rfl (Nat.le_of_ble_eq_true rfl) ⟨⟨rfl, rfl⟩, Nat.le_of_ble_eq_true rfl, rfl⟩ (Nat.le_of_ble_eq_true rfl) (Nat.le_of_ble_eq_true rfl) (q_iload_n rfl rfl (v_if_ne_f (t := 26) rfl rfl (by decide) (q_aload_n rfl rfl ?_)))))))
        refine v_gi (z := 0) (v := 0) rfl rfl rfl (Nat.le_of_ble_eq_true rfl) rfl rfl (up_e rfl) (v_if_ne_f (t := 26) rfl rfl (by decide) (q_aload_n rfl rfl (q_iload_n rfl rfl (v_pi (z := 0) rfl rfl rfl (Nat.le_of_ble_eq_true rfl) rfl rfl rfl (by decide) (q_aload_n rfl rfl (v_gr (t := 42) rfl rfl rfl (Nat.le_of_ble_eq_true rfl) rfl (q_iload_n rfl rfl ?_)))))))
        refine q_dup2 rfl ⟨rfl, rfl⟩ ?_
        have h_94 := ir_42 hI 1
        refine v_ia (v := c 42 1) rfl rfl (by decide) (by decide) (by decide) ((up_c (nn rfl)).trans (up_c (nn rfl))) (q_iconst rfl (v_iadd (v := c 42 1 + 1) rfl rfl (v_nrm (fun y_95 hy_95 => (v_is rfl rfl (by decide) (by decide) (by decide) (q_aload_n rfl rfl (v_gi (z := 0) (v := 2) rfl rfl rfl (Nat.le_of_ble_eq_true rfl) rfl rfl ((up_c (nn rfl)).trans (up_e rfl)) (v_if_ne_t (t := 37) rfl rfl (by decide) ?_))))))))
        refine q_iconst rfl (v_zret rfl rfl (by decide) (bk_inl (v_if_ne_f (t := 37) rfl rfl (by decide) (q_iconst rfl (q_iret rfl rfl ?_)))))
        have hI_96 := iw_41_0 (v := 0) hI ⟨by decide, by decide⟩
        have hI_97 := iw_41_0 (v := 2) hI_96 ⟨by decide, by decide⟩
        have hI_98 := iw_42 (j := 1) (v := y_95) hI_97 ⟨hy_95.1, hy_95.2⟩
        exact K (up (up (up c 41 0 0) 41 0 2) 42 1 y_95) 0 hI_98 (fun a j hm => (up_b (Decidable.or_iff_not_imp_left.mpr (fun h1 h2 => hm (Or.inr (Or.inl (Decidable.not_not.mp h1)))))).trans ((up_b (Decidable.or_iff_not_imp_left.mpr (fun h1 h2 => hm (Or.inl ⟨Decidable.not_not.mp h1, h2⟩)))).trans (up_b (Decidable.or_iff_not_imp_left.mpr (fun h1 h2 => hm (Or.inl ⟨Decidable.not_not.mp h1, h2⟩)))))) ⟨by decide, by decide⟩
      · refine v_if_lt_f (t := 26) rfl rfl ⟨by decide, (Int.not_lt.mp h_93), ha2.2⟩ (q_iconst rfl (q_goto (t := 27) rfl rfl (q_iconst rfl (q_iconst rfl (v_cv rfl rfl rfl rfl (Nat.le_of_ble_eq_true rfl) ⟨⟨rfl, rfl⟩, Nat.le_of_ble_eq_true rfl, rfl⟩ (Nat.le_of_ble_eq_true rfl) (Nat.le_of_ble_eq_true rfl) (q_iload_n rfl rfl (v_if_ne_t (t := 26) rfl rfl (by decide) ?_)))))))
        refine q_aload_n rfl rfl (v_gi (z := 0) (v := 0) rfl rfl rfl (Nat.le_of_ble_eq_true rfl) rfl rfl (up_e rfl) (v_if_ne_f (t := 37) rfl rfl (by decide) (q_iconst rfl (q_goto (t := 38) rfl rfl (v_zret rfl rfl (by decide) (bk_inl (v_if_ne_t (t := 37) rfl rfl (by decide) ?_)))))))
        refine q_iload_n rfl rfl (q_aload_n rfl rfl ?_)
        have h_99 := ir_41_47 hI
        refine v_gi (z := 47) (v := c 41 47) rfl rfl rfl (Nat.le_of_ble_eq_true rfl) rfl rfl (up_n (by decide)) ?_
        by_cases h_100 : a2 ≤ c 41 47
        · refine v_ic_le_t (t := 47) rfl rfl ⟨ha2.1, h_100, (Int.le_trans h_99.2 (by decide))⟩ (q_aload_n rfl rfl ?_)
          have hI_101 := iw_41_0 (v := 0) hI ⟨by decide, by decide⟩
          refine v_cv rfl rfl rfl rfl (Nat.le_of_ble_eq_true rfl) ⟨⟨rfl, rfl⟩, Nat.le_of_ble_eq_true rfl, rfl⟩ (Nat.le_of_ble_eq_true rfl) (Nat.le_of_ble_eq_true rfl) (s_186 hI_101 (fun c_102 hI_103 hF_104 => (bk_inl (q_iconst rfl (q_istore_n rfl (Nat.le_of_ble_eq_true rfl) (Wp_ls [(0, .ref 41), (1, vi a1), (2, vi a2), (3, vi 0)] (lsub_cons rfl (lsub_cons rfl (lsub_cons rfl (lsub_cons rfl lsub_nil)))) ?_))))))
          exact (s_221_l (sc := sc) (d := d) hI ha1 ha2 K 20) c_102 0 hI_103 (fun a j hm => (hF_104 a j (fun h => hm (Or.inr (Or.inr h)))).trans (up_b (Decidable.or_iff_not_imp_left.mpr (fun h1 h2 => hm (Or.inl ⟨Decidable.not_not.mp h1, h2⟩))))) ⟨by decide, by decide⟩ (by first | exact q_514734711 h_100 | omega) ⟨by first | exact q_720657ba9 h_81 | omega, by first | exact q_3a2e67ab0 h_80 h_87 | omega⟩ ⟨by first | exact q_720657ba9 h_93 | omega, by first | exact q_a093e8b4d h_100 h_99 | omega⟩ (by omega)
        · refine v_ic_le_f (t := 47) rfl rfl ⟨(Int.le_trans (by decide) h_99.1), (Int.not_le.mp h_100), ha2.2⟩ (q_iconst rfl (q_iret rfl rfl ?_))
          have hI_105 := iw_41_0 (v := 0) hI ⟨by decide, by decide⟩
          exact K (up c 41 0 0) (-1) hI_105 (fun a j hm => up_b (Decidable.or_iff_not_imp_left.mpr (fun h1 h2 => hm (Or.inl ⟨Decidable.not_not.mp h1, h2⟩)))) ⟨by decide, by decide⟩

set_option maxRecDepth 100000 in
set_option maxHeartbeats 4000000 in
theorem s_223_l {sc : List Int32} {e : Int} {d u P Q : Nat} {c : ME} {a1 : Int} {Z : AR → Prop} (hI : Iv u e P Q c) (ha1 : (-2147483648) ≤ a1 ∧ a1 ≤ 2147483647) (K : ∀ (y : Int), (-2147483648) ≤ y ∧ y ≤ 2147483647 → Z (.inl (some (vi y)), Wd P Q P P c, 0, 0)) : ∀ n : Nat, (∀ (v2 : Int) (v3 : Int), (-2147483648) ≤ v2 ∧ v2 ≤ 2147483647 → 0 ≤ v3 ∧ v3 ≤ 6 → 13 - 2 * v3 < (n : Int) → Wp sc (d + 8) 223 4 [(0, .ref 41), (1, vi a1), (2, vi v2), (3, vi v3)] [] (Wd P Q P P c) 0 0 Z)
  | 0 => by intro v2 v3 hv2 hv3 hm9; have hP := iv_P hI; have hQ := iv_Q hI; exfalso; omega
  | n + 1 => by
    have hP := iv_P hI
    have hQ := iv_Q hI
    have ih := s_223_l (sc := sc) (d := d) hI ha1 K n
    intro v2 v3 hv2 hv3 hm9
    refine q_iload_n rfl rfl (q_aload_n rfl rfl ?_)
    have h_1 := ir_41_20 hI
    refine v_gi (z := 20) (v := c 41 20) rfl rfl rfl (Nat.le_of_ble_eq_true rfl) rfl rfl rfl ?_
    by_cases h_2 : v3 ≥ c 41 20
    · refine v_ic_ge_t (t := 32) rfl rfl ⟨(Int.le_trans (by decide) h_1.1), h_2, (Int.le_trans hv3.2 (by decide))⟩ (q_iload_n rfl rfl (q_iret rfl rfl ?_))
      exact K v2 hv2
    · refine v_ic_ge_f (t := 32) rfl rfl ⟨(Int.le_trans (by decide) hv3.1), (Int.not_le.mp h_2), (Int.le_trans h_1.2 (by decide))⟩ (q_iload_n rfl rfl (q_iload_n rfl rfl (q_iload_n rfl rfl (v_ishrx rfl (fun y_3 hy_3 => (q_iconst rfl (v_iandx rfl (fun y_4 hy_4 => (q_aload_n rfl rfl ?_)))))))))
      refine q_iload_n rfl rfl ?_
      have h_5 := ir_59_g hI (j := 4 * v3) (by first | exact q_aa51b186e h_1 h_2 | omega)
      have h_6 := ir_59_g hI (j := 4 * v3 + 1) (by first | exact q_57851f9de h_1 h_2 | omega)
      have h_7 := ir_59_g hI (j := 4 * v3 + 2) (by first | exact q_7296e74e6 h_1 h_2 | omega)
      have h_8 := ir_59_g hI (j := 4 * v3 + 3) (by first | exact q_b15525c4c h_1 h_2 | omega)
      refine v_cv rfl rfl rfl rfl (Nat.le_of_ble_eq_true rfl) ⟨⟨rfl, rfl⟩, Nat.le_of_ble_eq_true rfl, rfl⟩ (Nat.le_of_ble_eq_true rfl) (Nat.le_of_ble_eq_true rfl) (s_187 (v1 := c 59 (4 * v3)) (v2 := c 59 (4 * v3 + 1)) (v3 := c 59 (4 * v3 + 2)) (v4 := c 59 (4 * v3 + 3)) (r := c 59 (4 * v3 + 1) + c 59 (4 * v3 + 2) + c 59 (4 * v3 + 3) + c 59 (4 * v3)) (a1 := v3) hI (show 0 ≤ v3 ∧ v3 ≤ 5 from ⟨hv3.1, by first | exact q_d63a8538e h_1 h_2 | omega⟩) (rfl) (rfl) (rfl) (rfl) (by omega) (bk_inl (v_imul (v := (y_4 * (c 59 (4 * v3 + 1) + c 59 (4 * v3 + 2) + c 59 (4 * v3 + 3) + c 59 (4 * v3)))) rfl rfl (v_nrm (fun y_9 hy_9 => (v_iadd (v := v2 + y_9) rfl rfl (v_nrm (fun y_10 hy_10 => (q_istore_n rfl (Nat.le_of_ble_eq_true rfl) (v_iinc (v := v3 + 1) rfl rfl (Nat.le_of_ble_eq_true rfl) rfl ?_))))))))))
      refine q_goto (t := 4) rfl rfl (Wp_ls [(0, .ref 41), (1, vi a1), (2, vi y_10), (3, vi (v3 + 1))] (lsub_cons rfl (lsub_cons rfl (lsub_cons rfl (lsub_cons rfl lsub_nil)))) ?_)
      exact ih y_10 (v3 + 1) hy_10 ⟨by first | exact rgp_l hv3.1 (by decide) | omega, by first | exact q_4a76cd9c7 h_1 h_2 | omega⟩ (by omega)
set_option maxRecDepth 100000 in
set_option maxHeartbeats 4000000 in
theorem s_223 {sc : List Int32} {e : Int} {d u P Q : Nat} {c : ME} {a1 : Int} {Z : AR → Prop} (hI : Iv u e P Q c) (ha1 : (-2147483648) ≤ a1 ∧ a1 ≤ 2147483647) (K : ∀ (y : Int), (-2147483648) ≤ y ∧ y ≤ 2147483647 → Z (.inl (some (vi y)), Wd P Q P P c, 0, 0)) : Wp sc (d + 8) 223 0 [(0, .ref 41), (1, vi a1)] [] (Wd P Q P P c) 0 0 Z := by
  have hP := iv_P hI
  have hQ := iv_Q hI
  refine q_iconst rfl (q_istore_n rfl (Nat.le_of_ble_eq_true rfl) (q_iconst rfl (q_istore_n rfl (Nat.le_of_ble_eq_true rfl) (Wp_ls [(0, .ref 41), (1, vi a1), (2, vi 0), (3, vi 0)] (lsub_cons rfl (lsub_cons rfl (lsub_cons rfl (lsub_cons rfl lsub_nil)))) ?_))))
  exact (s_223_l (sc := sc) (d := d) hI ha1 K 16) 0 0 ⟨by decide, by decide⟩ ⟨by decide, by decide⟩ (by omega)

set_option maxRecDepth 100000 in
set_option maxHeartbeats 4000000 in
theorem s_224_l {sc : List Int32} {e : Int} {d u P Q : Nat} {c : ME} {a1 : Int} {Z : AR → Prop} (hI : Iv u e P Q c) (ha1 : (-2147483648) ≤ a1 ∧ a1 ≤ 2147483647) (K : ∀ (c2 : ME) (y : Int), Iv u e P Q c2 → (∀ (a : Nat) (j : Int), ¬ (a = 54 ∨ a = 55) → c2 a j = c a j) → (-2147483648) ≤ y ∧ y ≤ 2147483647 → Z (.inl (some (vi y)), Wd P Q P P c2, 0, 0)) : ∀ n : Nat, (∀ (c2 : ME) (v2 : Int) (v3 : Int), Iv u e P Q c2 → (∀ (a : Nat) (j : Int), ¬ (a = 54 ∨ a = 55) → c2 a j = c a j) → (-2147483648) ≤ v2 ∧ v2 ≤ 2147483647 → 0 ≤ v3 ∧ v3 ≤ 6 → 13 - 2 * v3 < (n : Int) → Wp sc (d + 12) 224 4 [(0, .ref 41), (1, vi a1), (2, vi v2), (3, vi v3)] [] (Wd P Q P P c2) 0 0 Z)
  | 0 => by intro c2 v2 v3 hI2 hF hv2 hv3 hm9; have hP := iv_P hI; have hQ := iv_Q hI; exfalso; omega
  | n + 1 => by
    have hP := iv_P hI
    have hQ := iv_Q hI
    have ih := s_224_l (sc := sc) (d := d) hI ha1 K n
    intro c2 v2 v3 hI2 hF hv2 hv3 hm9
    refine q_iload_n rfl rfl (q_aload_n rfl rfl ?_)
    have h_1 := ir_41_20 hI
    have kn_2 : Hid (c2 41 20 = c 41 20) := hF 41 20 (fun q => q.elim (fun h => absurd h (nn rfl)) (fun h => absurd h (nn rfl)))
    refine v_gi (z := 20) (v := c 41 20) rfl rfl rfl (Nat.le_of_ble_eq_true rfl) rfl rfl (hid kn_2) ?_
    by_cases h_3 : v3 ≥ c 41 20
    · refine v_ic_ge_t (t := 32) rfl rfl ⟨by first | exact q_730ab5169 h_1 | omega, h_3, (Int.le_trans hv3.2 (by decide))⟩ (q_iload_n rfl rfl (q_iret rfl rfl ?_))
      exact K c2 v2 hI2 (fun a j hm => hF a j (fun q => q.elim (fun h => hm (Or.inl h)) (fun h => hm (Or.inr h)))) hv2
    · refine v_ic_ge_f (t := 32) rfl rfl ⟨(Int.le_trans (by decide) hv3.1), (Int.not_le.mp h_3), by first | exact q_b289b7db2 h_1 | omega⟩ (q_iload_n rfl rfl (q_iload_n rfl rfl (q_iload_n rfl rfl (v_ishrx rfl (fun y_4 hy_4 => (q_iconst rfl (v_iandx rfl (fun y_5 hy_5 => (q_aload_n rfl rfl ?_)))))))))
      refine q_iload_n rfl rfl (v_cv rfl rfl rfl rfl (Nat.le_of_ble_eq_true rfl) ⟨⟨rfl, rfl⟩, Nat.le_of_ble_eq_true rfl, rfl⟩ (Nat.le_of_ble_eq_true rfl) (Nat.le_of_ble_eq_true rfl) (s_196 (a1 := v3) hI2 (show 0 ≤ v3 ∧ v3 ≤ 5 from ⟨hv3.1, by first | exact q_d63a8538e h_1 h_3 | omega⟩) (fun c_6 y_9 hI_7 hF_8 hy_9 => (bk_inl (v_imul (v := (y_5 * y_9)) rfl rfl (v_nrm (fun y_10 hy_10 => (v_iadd (v := v2 + y_10) rfl rfl (v_nrm (fun y_11 hy_11 => (q_istore_n rfl (Nat.le_of_ble_eq_true rfl) ?_)))))))))))
      refine v_iinc (v := v3 + 1) rfl rfl (Nat.le_of_ble_eq_true rfl) rfl (q_goto (t := 4) rfl rfl (Wp_ls [(0, .ref 41), (1, vi a1), (2, vi y_11), (3, vi (v3 + 1))] (lsub_cons rfl (lsub_cons rfl (lsub_cons rfl (lsub_cons rfl lsub_nil)))) ?_))
      exact ih c_6 y_11 (v3 + 1) hI_7 (fun a j hm => (hF_8 a j (fun q => q.elim (fun h => hm (Or.inl h)) (fun h => hm (Or.inr h)))).trans (hF a j (fun q => q.elim (fun h => hm (Or.inl h)) (fun h => hm (Or.inr h))))) hy_11 ⟨by first | exact rgp_l hv3.1 (by decide) | omega, by first | exact q_4a76cd9c7 h_1 h_3 | omega⟩ (by omega)
set_option maxRecDepth 100000 in
set_option maxHeartbeats 4000000 in
theorem s_224 {sc : List Int32} {e : Int} {d u P Q : Nat} {c : ME} {a1 : Int} {Z : AR → Prop} (hI : Iv u e P Q c) (ha1 : (-2147483648) ≤ a1 ∧ a1 ≤ 2147483647) (K : ∀ (c2 : ME) (y : Int), Iv u e P Q c2 → (∀ (a : Nat) (j : Int), ¬ (a = 54 ∨ a = 55) → c2 a j = c a j) → (-2147483648) ≤ y ∧ y ≤ 2147483647 → Z (.inl (some (vi y)), Wd P Q P P c2, 0, 0)) : Wp sc (d + 12) 224 0 [(0, .ref 41), (1, vi a1)] [] (Wd P Q P P c) 0 0 Z := by
  have hP := iv_P hI
  have hQ := iv_Q hI
  refine q_iconst rfl (q_istore_n rfl (Nat.le_of_ble_eq_true rfl) (q_iconst rfl (q_istore_n rfl (Nat.le_of_ble_eq_true rfl) (Wp_ls [(0, .ref 41), (1, vi a1), (2, vi 0), (3, vi 0)] (lsub_cons rfl (lsub_cons rfl (lsub_cons rfl (lsub_cons rfl lsub_nil)))) ?_))))
  exact (s_224_l (sc := sc) (d := d) hI ha1 K 16) c 0 0 hI (fun a j hm => rfl) ⟨by decide, by decide⟩ ⟨by decide, by decide⟩ (by omega)

set_option maxRecDepth 100000 in
set_option maxHeartbeats 4000000 in
theorem s_226 {sc : List Int32} {e : Int} {d u P Q : Nat} {c : ME} {a1 : Int} {a2 : Int} {Z : AR → Prop} (hI : Iv u e P Q c) (ha1 : (-2147483648) ≤ a1 ∧ a1 ≤ 2147483647) (ha2 : (-2147483648) ≤ a2 ∧ a2 ≤ 2147483647) (K : ∀ (y : Int), (-2147483648) ≤ y ∧ y ≤ 2147483647 → Z (.inl (some (vi y)), Wd P Q P P c, 0, 0)) : Wp sc (d + 9) 226 0 [(0, .ref 41), (1, vi a1), (2, vi a2)] [] (Wd P Q P P c) 0 0 Z := by
  have hP := iv_P hI
  have hQ := iv_Q hI
  refine q_iconst rfl (q_aload_n rfl rfl (q_iload_n rfl rfl (v_cv rfl rfl rfl rfl (Nat.le_of_ble_eq_true rfl) ⟨⟨rfl, rfl⟩, Nat.le_of_ble_eq_true rfl, rfl⟩ (Nat.le_of_ble_eq_true rfl) (Nat.le_of_ble_eq_true rfl) (s_223 (a1 := a2) hI (show (-2147483648) ≤ a2 ∧ a2 ≤ 2147483647 from ha2) (fun y_1 hy_1 => (bk_inl (v_imul (v := 2 * y_1) rfl rfl (v_nrm (fun y_2 hy_2 => (q_aload_n rfl rfl ?_))))))))))
  refine q_iload_n rfl rfl (v_cv rfl rfl rfl rfl (Nat.le_of_ble_eq_true rfl) ⟨⟨rfl, rfl⟩, Nat.le_of_ble_eq_true rfl, rfl⟩ (Nat.le_of_ble_eq_true rfl) (Nat.le_of_ble_eq_true rfl) (s_223 (a1 := a1) hI (show (-2147483648) ≤ a1 ∧ a1 ≤ 2147483647 from ha1) (fun y_3 hy_3 => (bk_inl (v_isub (v := y_2 - y_3) rfl rfl (v_nrm (fun y_4 hy_4 => (q_call rfl rfl rfl rfl (q_iload_n rfl rfl ?_)))))))))
  by_cases h_5 : y_4 ≥ 0
  · refine v_if_ge_t (t := 9) rfl rfl ⟨by decide, h_5, hy_4.2⟩ (q_iload_n rfl rfl (q_iret rfl rfl (bk_inl (q_iret rfl rfl ?_))))
    exact K y_4 hy_4
  · refine v_if_ge_f (t := 9) rfl rfl ⟨hy_4.1, (Int.not_le.mp h_5), by decide⟩ (q_iload_n rfl rfl (v_ineg (v := 0 - y_4) rfl (by omega) (v_nrm (fun y_6 hy_6 => (q_goto (t := 10) rfl rfl (q_iret rfl rfl (bk_inl (q_iret rfl rfl ?_))))))))
    exact K y_6 hy_6

set_option maxRecDepth 100000 in
set_option maxHeartbeats 4000000 in
theorem s_227_l {sc : List Int32} {d P Q : Nat} {c : ME} {a1 : Int} {a2 : Int} {Z : AR → Prop} (hI : Iv 0 (-1) P Q c) (ha1 : (-2147483648) ≤ a1 ∧ a1 ≤ 2147483647) (ha2 : (-2147483648) ≤ a2 ∧ a2 ≤ 2147483647) (K : ∀ (c2 : ME) (y : Int), Iv 0 (-1) P Q c2 → (∀ (a : Nat) (j : Int), ¬ ((a = 41 ∧ j = 0) ∨ a = 42 ∨ a = 59) → c2 a j = c a j) → (-2147483648) ≤ y ∧ y ≤ 2147483647 → Z (.inl (some (vi y)), Wd P Q P P c2, 0, 0)) : ∀ n : Nat, (∀ (c2 : ME) (v3 : Int) (v4 : Int) (v5 : Int), Iv 0 (-1) P Q c2 → (∀ (a : Nat) (j : Int), ¬ ((a = 41 ∧ j = 0) ∨ a = 42 ∨ a = 59) → c2 a j = c a j) → (-2147483648) ≤ v3 ∧ v3 ≤ 2147483647 → (-1) ≤ v4 ∧ v4 ≤ 64 → 1 ≤ v5 ∧ v5 ≤ 64 → ((a1 ≥ 0 ∧ a1 ≤ 63)) → 129 - 2 * v5 < (n : Int) → Wp sc (d + 10) 227 59 [(0, .ref 41), (1, vi a1), (2, vi a2), (3, vi v3), (4, vi v4), (5, vi v5)] [] (Wd P Q P P c2) 0 0 Z)
  | 0 => by intro c2 v3 v4 v5 hI2 hF hv3 hv4 hv5 hx0 hm9; have hP := iv_P hI; have hQ := iv_Q hI; exfalso; omega
  | n + 1 => by
    have hP := iv_P hI
    have hQ := iv_Q hI
    have ih := s_227_l (sc := sc) (d := d) hI ha1 ha2 K n
    intro c2 v3 v4 v5 hI2 hF hv3 hv4 hv5 hx0 hm9
    refine q_iload rfl rfl (q_iload_n rfl rfl ?_)
    by_cases h_1 : v5 > a1
    · refine v_ic_gt_t (t := 117) rfl rfl ⟨ha1.1, h_1, (Int.le_trans hv5.2 (by decide))⟩ (q_iload_n rfl rfl ?_)
      by_cases h_2 : a2 ≠ 0
      · refine v_if_ne_t (t := 131) rfl rfl ⟨h_2, ⟨ha2.1, ha2.2⟩, by decide, by decide⟩ (q_iload rfl rfl (q_iret rfl rfl ?_))
        exact K c2 v4 hI2 (fun a j hm => hF a j (fun q => q.elim (fun h => hm (Or.inl h)) (fun q => q.elim (fun h => hm (Or.inr (Or.inl h))) (fun h => hm (Or.inr (Or.inr h)))))) ⟨(Int.le_trans (by decide) hv4.1), (Int.le_trans hv4.2 (by decide))⟩
      · refine v_if_ne_f (t := 131) rfl rfl (Decidable.not_not.mp h_2) (q_aload_n rfl rfl (q_iload_n rfl rfl (q_iload rfl rfl (v_cv rfl rfl rfl rfl (Nat.le_of_ble_eq_true rfl) ⟨⟨rfl, rfl⟩, Nat.le_of_ble_eq_true rfl, rfl⟩ (Nat.le_of_ble_eq_true rfl) (Nat.le_of_ble_eq_true rfl) (s_226 (a1 := a1) (a2 := v4) hI2 (show (-2147483648) ≤ a1 ∧ a1 ≤ 2147483647 from ha1) (show (-2147483648) ≤ v4 ∧ v4 ≤ 2147483647 from ⟨(Int.le_trans (by decide) hv4.1), (Int.le_trans hv4.2 (by decide))⟩) (fun y_3 hy_3 => (bk_inl (q_goto (t := 133) rfl rfl (q_iret rfl rfl ?_)))))))))
        exact K c2 y_3 hI2 (fun a j hm => hF a j (fun q => q.elim (fun h => hm (Or.inl h)) (fun q => q.elim (fun h => hm (Or.inr (Or.inl h))) (fun h => hm (Or.inr (Or.inr h)))))) hy_3
    · refine v_ic_gt_f (t := 117) rfl rfl ⟨(Int.le_trans (by decide) hv5.1), (Int.not_lt.mp h_1), ha1.2⟩ (q_iload rfl rfl (q_iload_n rfl rfl (q_iconst rfl (v_ixorx rfl (fun y_4 hy_4 => (v_iandl rfl ⟨by omega, by omega⟩ (fun y_5 hy_5 => ?_)))))))
      by_cases h_6 : y_5 ≠ 0
      · refine v_if_ne_t (t := 111) rfl rfl ⟨h_6, ⟨by omega, by omega⟩, by decide, by decide⟩ (v_iinc (v := v5 + 1) rfl rfl (Nat.le_of_ble_eq_true rfl) rfl (q_goto (t := 59) rfl rfl (Wp_ls [(0, .ref 41), (1, vi a1), (2, vi a2), (3, vi v3), (4, vi v4), (5, vi (v5 + 1))] (lsub_cons rfl (lsub_cons rfl (lsub_cons rfl (lsub_cons rfl (lsub_cons rfl (lsub_cons rfl lsub_nil)))))) ?_)))
        exact ih c2 v3 v4 (v5 + 1) hI2 (fun a j hm => hF a j (fun q => q.elim (fun h => hm (Or.inl h)) (fun q => q.elim (fun h => hm (Or.inr (Or.inl h))) (fun h => hm (Or.inr (Or.inr h)))))) hv3 hv4 ⟨by first | exact rgp_l hv5.1 (by decide) | omega, by first | (clear ha1 ha2 hv3 hv4 hv5 h_6; omega) | omega⟩ ⟨by first | exact q_d894f56d7 h_1 hv5 | (clear ha1 ha2 hv3 hv4 hx0 h_6; omega) | omega, by first | (clear ha1 ha2 hv3 hv4 hv5 h_1 h_6; omega) | omega⟩ (by omega)
      · refine v_if_ne_f (t := 111) rfl rfl (Decidable.not_not.mp h_6) (q_iload rfl rfl (q_iload_n rfl rfl (v_iandl rfl ⟨by omega, by omega⟩ (fun y_7 hy_7 => ?_))))
        by_cases h_8 : y_7 ≠ 0
        · refine v_if_ne_t (t := 84) rfl rfl ⟨h_8, ⟨by omega, by omega⟩, by decide, by decide⟩ (q_iload rfl rfl (q_iconst rfl ?_))
          by_cases h_9 : v4 = (-1)
          · refine v_ic_eq_t (t := 107) rfl rfl h_9 (q_iload rfl rfl (q_istore rfl (Nat.le_of_ble_eq_true rfl) (v_iinc (v := v5 + 1) rfl rfl (Nat.le_of_ble_eq_true rfl) rfl (q_goto (t := 59) rfl rfl (Wp_ls [(0, .ref 41), (1, vi a1), (2, vi a2), (3, vi v3), (4, vi v5), (5, vi (v5 + 1))] (lsub_cons rfl (lsub_cons rfl (lsub_cons rfl (lsub_cons rfl (lsub_cons rfl (lsub_cons rfl lsub_nil)))))) ?_)))))
            exact ih c2 v3 v5 (v5 + 1) hI2 (fun a j hm => hF a j (fun q => q.elim (fun h => hm (Or.inl h)) (fun q => q.elim (fun h => hm (Or.inr (Or.inl h))) (fun h => hm (Or.inr (Or.inr h)))))) hv3 ⟨(Int.le_trans (by decide) hv5.1), hv5.2⟩ ⟨by first | exact rgp_l hv5.1 (by decide) | omega, by first | (clear ha1 ha2 hv3 hv4 hv5 h_6 h_9 h_8; omega) | omega⟩ ⟨by first | exact q_d894f56d7 h_1 hv5 | (clear ha1 ha2 hv3 hv4 hx0 h_6 h_9 h_8; omega) | omega, by first | (clear ha1 ha2 hv3 hv4 hv5 h_1 h_6 h_9 h_8; omega) | omega⟩ (by omega)
          · refine v_ic_eq_f (t := 107) rfl rfl ⟨h_9, ⟨(Int.le_trans (by decide) hv4.1), (Int.le_trans hv4.2 (by decide))⟩, by decide, by decide⟩ (q_aload_n rfl rfl (q_iload_n rfl rfl (q_iload rfl rfl (v_cv rfl rfl rfl rfl (Nat.le_of_ble_eq_true rfl) ⟨⟨rfl, rfl⟩, Nat.le_of_ble_eq_true rfl, rfl⟩ (Nat.le_of_ble_eq_true rfl) (Nat.le_of_ble_eq_true rfl) (s_226 (a1 := a1) (a2 := v5) hI2 (show (-2147483648) ≤ a1 ∧ a1 ≤ 2147483647 from ha1) (show (-2147483648) ≤ v5 ∧ v5 ≤ 2147483647 from ⟨(Int.le_trans (by decide) hv5.1), (Int.le_trans hv5.2 (by decide))⟩) (fun y_10 hy_10 => (bk_inl (q_aload_n rfl rfl (q_iload_n rfl rfl ?_)))))))))
            refine q_iload rfl rfl (v_cv rfl rfl rfl rfl (Nat.le_of_ble_eq_true rfl) ⟨⟨rfl, rfl⟩, Nat.le_of_ble_eq_true rfl, rfl⟩ (Nat.le_of_ble_eq_true rfl) (Nat.le_of_ble_eq_true rfl) (s_226 (a1 := a1) (a2 := v4) hI2 (show (-2147483648) ≤ a1 ∧ a1 ≤ 2147483647 from ha1) (show (-2147483648) ≤ v4 ∧ v4 ≤ 2147483647 from ⟨(Int.le_trans (by decide) hv4.1), (Int.le_trans hv4.2 (by decide))⟩) (fun y_11 hy_11 => (bk_inl ?_))))
            by_cases h_12 : y_10 ≥ y_11
            · refine v_ic_ge_t (t := 111) rfl rfl ⟨hy_11.1, h_12, hy_10.2⟩ (v_iinc (v := v5 + 1) rfl rfl (Nat.le_of_ble_eq_true rfl) rfl (q_goto (t := 59) rfl rfl (Wp_ls [(0, .ref 41), (1, vi a1), (2, vi a2), (3, vi v3), (4, vi v4), (5, vi (v5 + 1))] (lsub_cons rfl (lsub_cons rfl (lsub_cons rfl (lsub_cons rfl (lsub_cons rfl (lsub_cons rfl lsub_nil)))))) ?_)))
              exact ih c2 v3 v4 (v5 + 1) hI2 (fun a j hm => hF a j (fun q => q.elim (fun h => hm (Or.inl h)) (fun q => q.elim (fun h => hm (Or.inr (Or.inl h))) (fun h => hm (Or.inr (Or.inr h)))))) hv3 hv4 ⟨by first | exact rgp_l hv5.1 (by decide) | omega, by first | (clear ha1 ha2 hv3 hv4 hv5 h_6 h_12 h_8 h_9; omega) | omega⟩ ⟨by first | exact q_d894f56d7 h_1 hv5 | (clear ha1 ha2 hv3 hv4 hx0 h_6 h_12 h_8 h_9; omega) | omega, by first | (clear ha1 ha2 hv3 hv4 hv5 h_1 h_6 h_12 h_8 h_9; omega) | omega⟩ (by omega)
            · refine v_ic_ge_f (t := 111) rfl rfl ⟨hy_10.1, (Int.not_le.mp h_12), hy_11.2⟩ (q_iload rfl rfl (q_istore rfl (Nat.le_of_ble_eq_true rfl) (v_iinc (v := v5 + 1) rfl rfl (Nat.le_of_ble_eq_true rfl) rfl (q_goto (t := 59) rfl rfl (Wp_ls [(0, .ref 41), (1, vi a1), (2, vi a2), (3, vi v3), (4, vi v5), (5, vi (v5 + 1))] (lsub_cons rfl (lsub_cons rfl (lsub_cons rfl (lsub_cons rfl (lsub_cons rfl (lsub_cons rfl lsub_nil)))))) ?_)))))
              exact ih c2 v3 v5 (v5 + 1) hI2 (fun a j hm => hF a j (fun q => q.elim (fun h => hm (Or.inl h)) (fun q => q.elim (fun h => hm (Or.inr (Or.inl h))) (fun h => hm (Or.inr (Or.inr h)))))) hv3 ⟨(Int.le_trans (by decide) hv5.1), hv5.2⟩ ⟨by first | exact rgp_l hv5.1 (by decide) | omega, by first | (clear ha1 ha2 hv3 hv4 hv5 h_6 h_12 h_8 h_9; omega) | omega⟩ ⟨by first | exact q_d894f56d7 h_1 hv5 | (clear ha1 ha2 hv3 hv4 hx0 h_6 h_12 h_8 h_9; omega) | omega, by first | (clear ha1 ha2 hv3 hv4 hv5 h_1 h_6 h_12 h_8 h_9; omega) | omega⟩ (by omega)
        · refine v_if_ne_f (t := 84) rfl rfl (Decidable.not_not.mp h_8) (q_goto (t := 111) rfl rfl (v_iinc (v := v5 + 1) rfl rfl (Nat.le_of_ble_eq_true rfl) rfl (q_goto (t := 59) rfl rfl (Wp_ls [(0, .ref 41), (1, vi a1), (2, vi a2), (3, vi v3), (4, vi v4), (5, vi (v5 + 1))] (lsub_cons rfl (lsub_cons rfl (lsub_cons rfl (lsub_cons rfl (lsub_cons rfl (lsub_cons rfl lsub_nil)))))) ?_))))
          exact ih c2 v3 v4 (v5 + 1) hI2 (fun a j hm => hF a j (fun q => q.elim (fun h => hm (Or.inl h)) (fun q => q.elim (fun h => hm (Or.inr (Or.inl h))) (fun h => hm (Or.inr (Or.inr h)))))) hv3 hv4 ⟨by first | exact rgp_l hv5.1 (by decide) | omega, by omega⟩ ⟨by first | exact q_d894f56d7 h_1 hv5 | omega, by omega⟩ (by omega)
set_option maxRecDepth 100000 in
set_option maxHeartbeats 4000000 in
theorem s_227 {sc : List Int32} {d P Q : Nat} {c : ME} {a1 : Int} {a2 : Int} {Z : AR → Prop} (hI : Iv 0 (-1) P Q c) (ha1 : (-2147483648) ≤ a1 ∧ a1 ≤ 2147483647) (ha2 : (-2147483648) ≤ a2 ∧ a2 ≤ 2147483647) (K : ∀ (c2 : ME) (y : Int), Iv 0 (-1) P Q c2 → (∀ (a : Nat) (j : Int), ¬ ((a = 41 ∧ j = 0) ∨ a = 42 ∨ a = 59) → c2 a j = c a j) → (-2147483648) ≤ y ∧ y ≤ 2147483647 → Z (.inl (some (vi y)), Wd P Q P P c2, 0, 0)) : Wp sc (d + 10) 227 0 [(0, .ref 41), (1, vi a1), (2, vi a2)] [] (Wd P Q P P c) 0 0 Z := by
  have hP := iv_P hI
  have hQ := iv_Q hI
  refine q_aload_n rfl rfl (q_iconst rfl (v_pi (z := 0) rfl rfl rfl (Nat.le_of_ble_eq_true rfl) rfl rfl rfl (by decide) (q_aload_n rfl rfl (q_aload_n rfl rfl (q_iload_n rfl rfl (v_cv rfl rfl rfl rfl (Nat.le_of_ble_eq_true rfl) ⟨⟨rfl, rfl⟩, Nat.le_of_ble_eq_true rfl, rfl⟩ (Nat.le_of_ble_eq_true rfl) (Nat.le_of_ble_eq_true rfl) (q_iload_n rfl rfl ?_)))))))
  by_cases h_13 : a1 < 0
  · refine v_if_lt_t (t := 18) rfl rfl ⟨ha1.1, h_13, by decide⟩ (q_iconst rfl (v_zret rfl rfl (by decide) (bk_inl (v_if_eq_t (t := 27) rfl rfl (by decide) (q_iconst rfl (q_iconst rfl (q_iconst rfl ?_)))))))
    refine v_cv rfl rfl rfl rfl (Nat.le_of_ble_eq_true rfl) ⟨⟨rfl, rfl⟩, Nat.le_of_ble_eq_true rfl, rfl⟩ (Nat.le_of_ble_eq_true rfl) (Nat.le_of_ble_eq_true rfl) (q_iload_n rfl rfl (v_if_ne_f (t := 26) rfl rfl (by decide) (q_aload_n rfl rfl (v_gi (z := 0) (v := 0) rfl rfl rfl (Nat.le_of_ble_eq_true rfl) rfl rfl (up_e rfl) (v_if_ne_f (t := 26) rfl rfl (by decide) (q_aload_n rfl rfl (q_iload_n rfl rfl ?_)))))))
    refine v_pi (z := 0) rfl rfl rfl (Nat.le_of_ble_eq_true rfl) rfl rfl rfl (by decide) (q_aload_n rfl rfl (v_gr (t := 42) rfl rfl rfl (Nat.le_of_ble_eq_true rfl) rfl (q_iload_n rfl rfl (q_dup2 rfl ⟨rfl, rfl⟩ ?_))))
    have h_14 := ir_42 hI 1
    refine v_ia (v := c 42 1) rfl rfl (by decide) (by decide) (by decide) ((up_c (nn rfl)).trans (up_c (nn rfl))) (q_iconst rfl (v_iadd (v := c 42 1 + 1) rfl rfl (v_nrm (fun y_15 hy_15 => (v_is rfl rfl (by decide) (by decide) (by decide) (q_aload_n rfl rfl (v_gi (z := 0) (v := 1) rfl rfl rfl (Nat.le_of_ble_eq_true rfl) rfl rfl ((up_c (nn rfl)).trans (up_e rfl)) (v_if_ne_t (t := 37) rfl rfl (by decide) ?_))))))))
    refine q_iconst rfl (v_zret rfl rfl (by decide) (bk_inl (v_if_ne_f (t := 38) rfl rfl (by decide) (q_iconst rfl (q_iret rfl rfl ?_)))))
    have hI_16 := iw_41_0 (v := 0) hI ⟨by decide, by decide⟩
    have hI_17 := iw_41_0 (v := 1) hI_16 ⟨by decide, by decide⟩
    have hI_18 := iw_42 (j := 1) (v := y_15) hI_17 ⟨hy_15.1, hy_15.2⟩
    exact K (up (up (up c 41 0 0) 41 0 1) 42 1 y_15) 0 hI_18 (fun a j hm => (up_b (Decidable.or_iff_not_imp_left.mpr (fun h1 h2 => hm (Or.inr (Or.inl (Decidable.not_not.mp h1)))))).trans ((up_b (Decidable.or_iff_not_imp_left.mpr (fun h1 h2 => hm (Or.inl ⟨Decidable.not_not.mp h1, h2⟩)))).trans (up_b (Decidable.or_iff_not_imp_left.mpr (fun h1 h2 => hm (Or.inl ⟨Decidable.not_not.mp h1, h2⟩)))))) ⟨by decide, by decide⟩
  · refine v_if_lt_f (t := 18) rfl rfl ⟨by decide, (Int.not_lt.mp h_13), ha1.2⟩ (q_iload_n rfl rfl (q_iconst rfl (q_aload_n rfl rfl ?_)))
    have h_19 := ir_41_20 hI
    refine v_gi (z := 20) (v := c 41 20) rfl rfl rfl (Nat.le_of_ble_eq_true rfl) rfl rfl (up_n (by decide)) (v_shl1 rfl ⟨by omega, by omega⟩ (fun y_20 hy_20 => ?_))
    by_cases h_21 : a1 ≥ y_20
    · refine v_ic_ge_t (t := 18) rfl rfl ⟨(Int.le_trans (by decide) hy_20.1), h_21, ha1.2⟩ (q_iconst rfl (v_zret rfl rfl (by decide) (bk_inl (v_if_eq_t (t := 27) rfl rfl (by decide) (q_iconst rfl (q_iconst rfl (q_iconst rfl ?_)))))))
      refine v_cv rfl rfl rfl rfl (Nat.le_of_ble_eq_true rfl) ⟨⟨rfl, rfl⟩, Nat.le_of_ble_eq_true rfl, rfl⟩ (Nat.le_of_ble_eq_true rfl) (Nat.le_of_ble_eq_true rfl) (q_iload_n rfl rfl (v_if_ne_f (t := 26) rfl rfl (by decide) (q_aload_n rfl rfl (v_gi (z := 0) (v := 0) rfl rfl rfl (Nat.le_of_ble_eq_true rfl) rfl rfl (up_e rfl) (v_if_ne_f (t := 26) rfl rfl (by decide) (q_aload_n rfl rfl (q_iload_n rfl rfl ?_)))))))
      refine v_pi (z := 0) rfl rfl rfl (Nat.le_of_ble_eq_true rfl) rfl rfl rfl (by decide) (q_aload_n rfl rfl (v_gr (t := 42) rfl rfl rfl (Nat.le_of_ble_eq_true rfl) rfl (q_iload_n rfl rfl (q_dup2 rfl ⟨rfl, rfl⟩ ?_))))
      have h_22 := ir_42 hI 1
      refine v_ia (v := c 42 1) rfl rfl (by decide) (by decide) (by decide) ((up_c (nn rfl)).trans (up_c (nn rfl))) (q_iconst rfl (v_iadd (v := c 42 1 + 1) rfl rfl (v_nrm (fun y_23 hy_23 => (v_is rfl rfl (by decide) (by decide) (by decide) (q_aload_n rfl rfl (v_gi (z := 0) (v := 1) rfl rfl rfl (Nat.le_of_ble_eq_true rfl) rfl rfl ((up_c (nn rfl)).trans (up_e rfl)) (v_if_ne_t (t := 37) rfl rfl (by decide) ?_))))))))
      refine q_iconst rfl (v_zret rfl rfl (by decide) (bk_inl (v_if_ne_f (t := 38) rfl rfl (by decide) (q_iconst rfl (q_iret rfl rfl ?_)))))
      have hI_24 := iw_41_0 (v := 0) hI ⟨by decide, by decide⟩
      have hI_25 := iw_41_0 (v := 1) hI_24 ⟨by decide, by decide⟩
      have hI_26 := iw_42 (j := 1) (v := y_23) hI_25 ⟨hy_23.1, hy_23.2⟩
      exact K (up (up (up c 41 0 0) 41 0 1) 42 1 y_23) 0 hI_26 (fun a j hm => (up_b (Decidable.or_iff_not_imp_left.mpr (fun h1 h2 => hm (Or.inr (Or.inl (Decidable.not_not.mp h1)))))).trans ((up_b (Decidable.or_iff_not_imp_left.mpr (fun h1 h2 => hm (Or.inl ⟨Decidable.not_not.mp h1, h2⟩)))).trans (up_b (Decidable.or_iff_not_imp_left.mpr (fun h1 h2 => hm (Or.inl ⟨Decidable.not_not.mp h1, h2⟩)))))) ⟨by decide, by decide⟩
    · refine v_ic_ge_f (t := 18) rfl rfl ⟨ha1.1, (Int.not_le.mp h_21), (Int.le_trans hy_20.2 (by decide))⟩ (q_iconst rfl (q_goto (t := 19) rfl rfl (v_zret rfl rfl (by decide) (bk_inl (v_if_eq_f (t := 27) rfl rfl (by decide) (q_iload_n rfl rfl (q_iconst rfl ?_)))))))
      refine q_iconst rfl (q_call rfl rfl rfl rfl (q_iload_n rfl rfl (q_iload_n rfl rfl ?_)))
      by_cases h_27 : a2 < 0
      · refine v_ic_lt_t (t := 14) rfl rfl ⟨ha2.1, h_27, by decide⟩ (q_iconst rfl (v_zret rfl rfl (by decide) (bk_inl (v_if_eq_t (t := 27) rfl rfl (by decide) (q_iconst rfl (q_iconst rfl (q_iconst rfl ?_)))))))
        refine v_cv rfl rfl rfl rfl (Nat.le_of_ble_eq_true rfl) ⟨⟨rfl, rfl⟩, Nat.le_of_ble_eq_true rfl, rfl⟩ (Nat.le_of_ble_eq_true rfl) (Nat.le_of_ble_eq_true rfl) (q_iload_n rfl rfl (v_if_ne_f (t := 26) rfl rfl (by decide) (q_aload_n rfl rfl (v_gi (z := 0) (v := 0) rfl rfl rfl (Nat.le_of_ble_eq_true rfl) rfl rfl (up_e rfl) (v_if_ne_f (t := 26) rfl rfl (by decide) (q_aload_n rfl rfl (q_iload_n rfl rfl ?_)))))))
        refine v_pi (z := 0) rfl rfl rfl (Nat.le_of_ble_eq_true rfl) rfl rfl rfl (by decide) (q_aload_n rfl rfl (v_gr (t := 42) rfl rfl rfl (Nat.le_of_ble_eq_true rfl) rfl (q_iload_n rfl rfl (q_dup2 rfl ⟨rfl, rfl⟩ ?_))))
        have h_28 := ir_42 hI 1
        refine v_ia (v := c 42 1) rfl rfl (by decide) (by decide) (by decide) ((up_c (nn rfl)).trans (up_c (nn rfl))) (q_iconst rfl (v_iadd (v := c 42 1 + 1) rfl rfl (v_nrm (fun y_29 hy_29 => (v_is rfl rfl (by decide) (by decide) (by decide) (q_aload_n rfl rfl (v_gi (z := 0) (v := 1) rfl rfl rfl (Nat.le_of_ble_eq_true rfl) rfl rfl ((up_c (nn rfl)).trans (up_e rfl)) (v_if_ne_t (t := 37) rfl rfl (by decide) ?_))))))))
        refine q_iconst rfl (v_zret rfl rfl (by decide) (bk_inl (v_if_ne_f (t := 38) rfl rfl (by decide) (q_iconst rfl (q_iret rfl rfl ?_)))))
        have hI_30 := iw_41_0 (v := 0) hI ⟨by decide, by decide⟩
        have hI_31 := iw_41_0 (v := 1) hI_30 ⟨by decide, by decide⟩
        have hI_32 := iw_42 (j := 1) (v := y_29) hI_31 ⟨hy_29.1, hy_29.2⟩
        exact K (up (up (up c 41 0 0) 41 0 1) 42 1 y_29) 0 hI_32 (fun a j hm => (up_b (Decidable.or_iff_not_imp_left.mpr (fun h1 h2 => hm (Or.inr (Or.inl (Decidable.not_not.mp h1)))))).trans ((up_b (Decidable.or_iff_not_imp_left.mpr (fun h1 h2 => hm (Or.inl ⟨Decidable.not_not.mp h1, h2⟩)))).trans (up_b (Decidable.or_iff_not_imp_left.mpr (fun h1 h2 => hm (Or.inl ⟨Decidable.not_not.mp h1, h2⟩)))))) ⟨by decide, by decide⟩
      · refine v_ic_lt_f (t := 14) rfl rfl ⟨by decide, (Int.not_lt.mp h_27), ha2.2⟩ (q_iload_n rfl rfl (q_iload_n rfl rfl ?_))
        by_cases h_33 : a2 > 1
        · refine v_ic_gt_t (t := 14) rfl rfl ⟨by decide, h_33, ha2.2⟩ (q_iconst rfl (v_zret rfl rfl (by decide) (bk_inl (v_if_eq_t (t := 27) rfl rfl (by decide) (q_iconst rfl (q_iconst rfl (q_iconst rfl ?_)))))))
          refine v_cv rfl rfl rfl rfl (Nat.le_of_ble_eq_true rfl) ⟨⟨rfl, rfl⟩, Nat.le_of_ble_eq_true rfl, rfl⟩ (Nat.le_of_ble_eq_true rfl) (Nat.le_of_ble_eq_true rfl) (q_iload_n rfl rfl (v_if_ne_f (t := 26) rfl rfl (by decide) (q_aload_n rfl rfl (v_gi (z := 0) (v := 0) rfl rfl rfl (Nat.le_of_ble_eq_true rfl) rfl rfl (up_e rfl) (v_if_ne_f (t := 26) rfl rfl (by decide) (q_aload_n rfl rfl (q_iload_n rfl rfl ?_)))))))
          refine v_pi (z := 0) rfl rfl rfl (Nat.le_of_ble_eq_true rfl) rfl rfl rfl (by decide) (q_aload_n rfl rfl (v_gr (t := 42) rfl rfl rfl (Nat.le_of_ble_eq_true rfl) rfl (q_iload_n rfl rfl (q_dup2 rfl ⟨rfl, rfl⟩ ?_))))
          have h_34 := ir_42 hI 1
          refine v_ia (v := c 42 1) rfl rfl (by decide) (by decide) (by decide) ((up_c (nn rfl)).trans (up_c (nn rfl))) (q_iconst rfl (v_iadd (v := c 42 1 + 1) rfl rfl (v_nrm (fun y_35 hy_35 => (v_is rfl rfl (by decide) (by decide) (by decide) (q_aload_n rfl rfl (v_gi (z := 0) (v := 1) rfl rfl rfl (Nat.le_of_ble_eq_true rfl) rfl rfl ((up_c (nn rfl)).trans (up_e rfl)) (v_if_ne_t (t := 37) rfl rfl (by decide) ?_))))))))
          refine q_iconst rfl (v_zret rfl rfl (by decide) (bk_inl (v_if_ne_f (t := 38) rfl rfl (by decide) (q_iconst rfl (q_iret rfl rfl ?_)))))
          have hI_36 := iw_41_0 (v := 0) hI ⟨by decide, by decide⟩
          have hI_37 := iw_41_0 (v := 1) hI_36 ⟨by decide, by decide⟩
          have hI_38 := iw_42 (j := 1) (v := y_35) hI_37 ⟨hy_35.1, hy_35.2⟩
          exact K (up (up (up c 41 0 0) 41 0 1) 42 1 y_35) 0 hI_38 (fun a j hm => (up_b (Decidable.or_iff_not_imp_left.mpr (fun h1 h2 => hm (Or.inr (Or.inl (Decidable.not_not.mp h1)))))).trans ((up_b (Decidable.or_iff_not_imp_left.mpr (fun h1 h2 => hm (Or.inl ⟨Decidable.not_not.mp h1, h2⟩)))).trans (up_b (Decidable.or_iff_not_imp_left.mpr (fun h1 h2 => hm (Or.inl ⟨Decidable.not_not.mp h1, h2⟩)))))) ⟨by decide, by decide⟩
        · refine v_ic_gt_f (t := 14) rfl rfl ⟨ha2.1, (Int.not_lt.mp h_33), by decide⟩ (q_iconst rfl (q_goto (t := 15) rfl rfl (v_zret rfl rfl (by decide) (bk_inl (v_if_eq_f (t := 27) rfl rfl (by decide) (q_iconst rfl (q_goto (t := 28) rfl rfl ?_)))))))
          refine q_iconst rfl (q_iconst rfl (v_cv rfl rfl rfl rfl (Nat.le_of_ble_eq_true rfl) ⟨⟨rfl, rfl⟩, Nat.le_of_ble_eq_true rfl, rfl⟩ (Nat.le_of_ble_eq_true rfl) (Nat.le_of_ble_eq_true rfl) (q_iload_n rfl rfl (v_if_ne_t (t := 26) rfl rfl (by decide) (q_aload_n rfl rfl (v_gi (z := 0) (v := 0) rfl rfl rfl (Nat.le_of_ble_eq_true rfl) rfl rfl (up_e rfl) (v_if_ne_f (t := 37) rfl rfl (by decide) ?_)))))))
          refine q_iconst rfl (q_goto (t := 38) rfl rfl (v_zret rfl rfl (by decide) (bk_inl (v_if_ne_t (t := 38) rfl rfl (by decide) (q_iload_n rfl rfl ?_)))))
          by_cases h_39 : a1 ≠ 0
          · refine v_if_ne_t (t := 44) rfl rfl ⟨h_39, ⟨ha1.1, ha1.2⟩, by decide, by decide⟩ (q_aload_n rfl rfl ?_)
            have hI_40 := iw_41_0 (v := 0) hI ⟨by decide, by decide⟩
            refine v_cv rfl rfl rfl rfl (Nat.le_of_ble_eq_true rfl) ⟨⟨rfl, rfl⟩, Nat.le_of_ble_eq_true rfl, rfl⟩ (Nat.le_of_ble_eq_true rfl) (Nat.le_of_ble_eq_true rfl) (s_186 hI_40 (fun c_41 hI_42 hF_43 => (bk_inl (q_iload_n rfl rfl (q_iload_n rfl rfl (v_ineg (v := 0 - a1) rfl (by omega) (v_iandl rfl ⟨by omega, by omega⟩ (fun y_44 hy_44 => (q_istore_n rfl (Nat.le_of_ble_eq_true rfl) (q_iconst rfl ?_))))))))))
            refine q_istore rfl (Nat.le_of_ble_eq_true rfl) (q_iconst rfl (q_istore rfl (Nat.le_of_ble_eq_true rfl) (Wp_ls [(0, .ref 41), (1, vi a1), (2, vi a2), (3, vi y_44), (4, vi (-1)), (5, vi 1)] (lsub_cons rfl (lsub_cons rfl (lsub_cons rfl (lsub_cons rfl (lsub_cons rfl (lsub_cons rfl lsub_nil)))))) ?_)))
            exact (s_227_l (sc := sc) (d := d) hI ha1 ha2 K 130) c_41 y_44 (-1) 1 hI_42 (fun a j hm => (hF_43 a j (fun h => hm (Or.inr (Or.inr h)))).trans (up_b (Decidable.or_iff_not_imp_left.mpr (fun h1 h2 => hm (Or.inl ⟨Decidable.not_not.mp h1, h2⟩))))) ⟨by first | (clear ha1 ha2 h_13 h_19 h_21 h_27 h_33 h_39; omega) | omega, by first | (clear ha1 ha2 h_13 h_19 h_27 h_33 h_39; omega) | omega⟩ ⟨by decide, by decide⟩ ⟨by decide, by decide⟩ ⟨by first | exact q_720657ba9 h_13 | (clear ha1 ha2 h_19 h_21 h_27 h_33 h_39; omega) | omega, by first | (clear ha1 ha2 h_13 h_19 h_27 h_33 h_39; omega) | omega⟩ (by omega)
          · refine v_if_ne_f (t := 44) rfl rfl (Decidable.not_not.mp h_39) (q_iconst rfl (q_iret rfl rfl ?_))
            have hI_45 := iw_41_0 (v := 0) hI ⟨by decide, by decide⟩
            exact K (up c 41 0 0) 0 hI_45 (fun a j hm => up_b (Decidable.or_iff_not_imp_left.mpr (fun h1 h2 => hm (Or.inl ⟨Decidable.not_not.mp h1, h2⟩)))) ⟨by decide, by decide⟩

set_option maxRecDepth 100000 in
set_option maxHeartbeats 4000000 in
theorem s_228_l {sc : List Int32} {d P Q : Nat} {c : ME} {a1 : Int} {a2 : Int} {a3 : Int} {Z : AR → Prop} (hI : Iv 0 (-1) P Q c) (ha1 : (-2147483648) ≤ a1 ∧ a1 ≤ 2147483647) (ha2 : (-2147483648) ≤ a2 ∧ a2 ≤ 2147483647) (ha3 : (-2147483648) ≤ a3 ∧ a3 ≤ 2147483647) (K : ∀ (c2 : ME) (y : Int), Iv 0 (-1) P Q c2 → (∀ (a : Nat) (j : Int), ¬ ((a = 41 ∧ j = 0) ∨ a = 42 ∨ a = 59 ∨ a = 54 ∨ a = 55) → c2 a j = c a j) → (-2147483648) ≤ y ∧ y ≤ 2147483647 → Z (.inl (some (vi y)), Wd P Q P P c2, 0, 0)) : ∀ n : Nat, (∀ (c2 : ME) (v4 : Int) (v5 : Int) (v6 : Int), Iv 0 (-1) P Q c2 → (∀ (a : Nat) (j : Int), ¬ ((a = 41 ∧ j = 0) ∨ a = 42 ∨ a = 59 ∨ a = 54 ∨ a = 55) → c2 a j = c a j) → 0 ≤ v4 ∧ v4 ≤ 63 → 0 ≤ v5 ∧ v5 ≤ 64 → 1 ≤ v6 ∧ v6 ≤ 64 → 129 - 2 * v6 < (n : Int) → Wp sc (d + 13) 228 69 [(0, .ref 41), (1, vi a1), (2, vi a2), (3, vi a3), (4, vi v4), (5, vi v5), (6, vi v6)] [] (Wd P Q P P c2) 0 0 Z)
  | 0 => by intro c2 v4 v5 v6 hI2 hF hv4 hv5 hv6 hm9; have hP := iv_P hI; have hQ := iv_Q hI; exfalso; omega
  | n + 1 => by
    have hP := iv_P hI
    have hQ := iv_Q hI
    have ih := s_228_l (sc := sc) (d := d) hI ha1 ha2 ha3 K n
    intro c2 v4 v5 v6 hI2 hF hv4 hv5 hv6 hm9
    refine q_iload rfl rfl (q_iload rfl rfl ?_)
    by_cases h_1 : v6 > v4
    · refine v_ic_gt_t (t := 149) rfl rfl ⟨(Int.le_trans (by decide) hv4.1), h_1, (Int.le_trans hv6.2 (by decide))⟩ (q_iload_n rfl rfl ?_)
      by_cases h_2 : a3 ≠ 0
      · refine v_if_ne_t (t := 162) rfl rfl ⟨h_2, ⟨ha3.1, ha3.2⟩, by decide, by decide⟩ (q_iload_n rfl rfl (q_iconst rfl ?_))
        by_cases h_3 : a3 ≠ 1
        · refine v_ic_ne_t (t := 176) rfl rfl ⟨h_3, ⟨ha3.1, ha3.2⟩, by decide, by decide⟩ (q_iload rfl rfl (q_iret rfl rfl ?_))
          exact K c2 v5 hI2 (fun a j hm => hF a j (fun q => q.elim (fun h => hm (Or.inl h)) (fun q => q.elim (fun h => hm (Or.inr (Or.inl h))) (fun q => q.elim (fun h => hm (Or.inr (Or.inr (Or.inl h)))) (fun q => q.elim (fun h => hm (Or.inr (Or.inr (Or.inr (Or.inl h))))) (fun h => hm (Or.inr (Or.inr (Or.inr (Or.inr h)))))))))) ⟨(Int.le_trans (by decide) hv5.1), (Int.le_trans hv5.2 (by decide))⟩
        · refine v_ic_ne_f (t := 176) rfl rfl (Decidable.not_not.mp h_3) (q_aload_n rfl rfl (q_iload rfl rfl (v_cv rfl rfl rfl rfl (Nat.le_of_ble_eq_true rfl) ⟨⟨rfl, rfl⟩, Nat.le_of_ble_eq_true rfl, rfl⟩ (Nat.le_of_ble_eq_true rfl) (Nat.le_of_ble_eq_true rfl) (s_223 (a1 := v5) hI2 (show (-2147483648) ≤ v5 ∧ v5 ≤ 2147483647 from ⟨(Int.le_trans (by decide) hv5.1), (Int.le_trans hv5.2 (by decide))⟩) (fun y_4 hy_4 => (bk_inl (q_goto (t := 178) rfl rfl (q_iret rfl rfl ?_))))))))
          exact K c2 y_4 hI2 (fun a j hm => hF a j (fun q => q.elim (fun h => hm (Or.inl h)) (fun q => q.elim (fun h => hm (Or.inr (Or.inl h))) (fun q => q.elim (fun h => hm (Or.inr (Or.inr (Or.inl h)))) (fun q => q.elim (fun h => hm (Or.inr (Or.inr (Or.inr (Or.inl h))))) (fun h => hm (Or.inr (Or.inr (Or.inr (Or.inr h)))))))))) hy_4
      · refine v_if_ne_f (t := 162) rfl rfl (Decidable.not_not.mp h_2) (q_aload_n rfl rfl (q_iload rfl rfl (v_cv rfl rfl rfl rfl (Nat.le_of_ble_eq_true rfl) ⟨⟨rfl, rfl⟩, Nat.le_of_ble_eq_true rfl, rfl⟩ (Nat.le_of_ble_eq_true rfl) (Nat.le_of_ble_eq_true rfl) (s_224 (a1 := v5) hI2 (show (-2147483648) ≤ v5 ∧ v5 ≤ 2147483647 from ⟨(Int.le_trans (by decide) hv5.1), (Int.le_trans hv5.2 (by decide))⟩) (fun c_5 y_8 hI_6 hF_7 hy_8 => (bk_inl (q_goto (t := 178) rfl rfl (q_iret rfl rfl ?_))))))))
        exact K c_5 y_8 hI_6 (fun a j hm => (hF_7 a j (fun q => q.elim (fun h => hm (Or.inr (Or.inr (Or.inr (Or.inl h))))) (fun h => hm (Or.inr (Or.inr (Or.inr (Or.inr h))))))).trans (hF a j (fun q => q.elim (fun h => hm (Or.inl h)) (fun q => q.elim (fun h => hm (Or.inr (Or.inl h))) (fun q => q.elim (fun h => hm (Or.inr (Or.inr (Or.inl h)))) (fun q => q.elim (fun h => hm (Or.inr (Or.inr (Or.inr (Or.inl h))))) (fun h => hm (Or.inr (Or.inr (Or.inr (Or.inr h))))))))))) hy_8
    · refine v_ic_gt_f (t := 149) rfl rfl ⟨(Int.le_trans (by decide) hv6.1), (Int.not_lt.mp h_1), (Int.le_trans hv4.2 (by decide))⟩ (q_iload rfl rfl (q_iload rfl rfl (q_iconst rfl (v_ixorx rfl (fun y_9 hy_9 => (v_iandl rfl ⟨by omega, by omega⟩ (fun y_10 hy_10 => ?_)))))))
      by_cases h_11 : y_10 ≠ 0
      · refine v_if_ne_t (t := 143) rfl rfl ⟨h_11, ⟨by omega, by omega⟩, by decide, by decide⟩ (v_iinc (v := v6 + 1) rfl rfl (Nat.le_of_ble_eq_true rfl) rfl (q_goto (t := 69) rfl rfl (Wp_ls [(0, .ref 41), (1, vi a1), (2, vi a2), (3, vi a3), (4, vi v4), (5, vi v5), (6, vi (v6 + 1))] (lsub_cons rfl (lsub_cons rfl (lsub_cons rfl (lsub_cons rfl (lsub_cons rfl (lsub_cons rfl (lsub_cons rfl lsub_nil))))))) ?_)))
        exact ih c2 v4 v5 (v6 + 1) hI2 (fun a j hm => hF a j (fun q => q.elim (fun h => hm (Or.inl h)) (fun q => q.elim (fun h => hm (Or.inr (Or.inl h))) (fun q => q.elim (fun h => hm (Or.inr (Or.inr (Or.inl h)))) (fun q => q.elim (fun h => hm (Or.inr (Or.inr (Or.inr (Or.inl h))))) (fun h => hm (Or.inr (Or.inr (Or.inr (Or.inr h)))))))))) hv4 hv5 ⟨by first | exact rgp_l hv6.1 (by decide) | omega, by first | exact q_8ed797edd h_1 hv4 | (clear ha1 ha2 ha3 hv5 hv6 h_11; omega) | omega⟩ (by omega)
      · refine v_if_ne_f (t := 143) rfl rfl (Decidable.not_not.mp h_11) (q_aload_n rfl rfl (q_iload rfl rfl (v_cv rfl rfl rfl rfl (Nat.le_of_ble_eq_true rfl) ⟨⟨rfl, rfl⟩, Nat.le_of_ble_eq_true rfl, rfl⟩ (Nat.le_of_ble_eq_true rfl) (Nat.le_of_ble_eq_true rfl) (s_223 (a1 := v6) hI2 (show (-2147483648) ≤ v6 ∧ v6 ≤ 2147483647 from ⟨(Int.le_trans (by decide) hv6.1), (Int.le_trans hv6.2 (by decide))⟩) (fun y_12 hy_12 => (bk_inl (q_iload_n rfl rfl ?_)))))))
        by_cases h_13 : y_12 ≤ a2
        · refine v_ic_le_t (t := 99) rfl rfl ⟨hy_12.1, h_13, ha2.2⟩ (q_aload_n rfl rfl (q_iload rfl rfl (v_cv rfl rfl rfl rfl (Nat.le_of_ble_eq_true rfl) ⟨⟨rfl, rfl⟩, Nat.le_of_ble_eq_true rfl, rfl⟩ (Nat.le_of_ble_eq_true rfl) (Nat.le_of_ble_eq_true rfl) (s_224 (a1 := v6) hI2 (show (-2147483648) ≤ v6 ∧ v6 ≤ 2147483647 from ⟨(Int.le_trans (by decide) hv6.1), (Int.le_trans hv6.2 (by decide))⟩) (fun c_14 y_17 hI_15 hF_16 hy_17 => (bk_inl (q_aload_n rfl rfl (q_iload rfl rfl (v_cv rfl rfl rfl rfl (Nat.le_of_ble_eq_true rfl) ⟨⟨rfl, rfl⟩, Nat.le_of_ble_eq_true rfl, rfl⟩ (Nat.le_of_ble_eq_true rfl) (Nat.le_of_ble_eq_true rfl) (s_224 (a1 := v5) hI_15 (show (-2147483648) ≤ v5 ∧ v5 ≤ 2147483647 from ⟨(Int.le_trans (by decide) hv5.1), (Int.le_trans hv5.2 (by decide))⟩) (fun c_18 y_21 hI_19 hF_20 hy_21 => ?_)))))))))))
          refine bk_inl (v_isub (v := y_17 - y_21) rfl rfl (v_nrm (fun y_22 hy_22 => (q_istore rfl (Nat.le_of_ble_eq_true rfl) (q_iload rfl rfl ?_)))))
          by_cases h_23 : y_22 > 0
          · refine v_if_gt_t (t := 139) rfl rfl ⟨by decide, h_23, hy_22.2⟩ (q_iload rfl rfl (q_istore rfl (Nat.le_of_ble_eq_true rfl) (v_iinc (v := v6 + 1) rfl rfl (Nat.le_of_ble_eq_true rfl) rfl (q_goto (t := 69) rfl rfl (Wp_ls [(0, .ref 41), (1, vi a1), (2, vi a2), (3, vi a3), (4, vi v4), (5, vi v6), (6, vi (v6 + 1))] (lsub_cons rfl (lsub_cons rfl (lsub_cons rfl (lsub_cons rfl (lsub_cons rfl (lsub_cons rfl (lsub_cons rfl lsub_nil))))))) ?_)))))
            exact ih c_18 v4 v6 (v6 + 1) hI_19 (fun a j hm => (hF_20 a j (fun q => q.elim (fun h => hm (Or.inr (Or.inr (Or.inr (Or.inl h))))) (fun h => hm (Or.inr (Or.inr (Or.inr (Or.inr h))))))).trans ((hF_16 a j (fun q => q.elim (fun h => hm (Or.inr (Or.inr (Or.inr (Or.inl h))))) (fun h => hm (Or.inr (Or.inr (Or.inr (Or.inr h))))))).trans (hF a j (fun q => q.elim (fun h => hm (Or.inl h)) (fun q => q.elim (fun h => hm (Or.inr (Or.inl h))) (fun q => q.elim (fun h => hm (Or.inr (Or.inr (Or.inl h)))) (fun q => q.elim (fun h => hm (Or.inr (Or.inr (Or.inr (Or.inl h))))) (fun h => hm (Or.inr (Or.inr (Or.inr (Or.inr h)))))))))))) hv4 ⟨(Int.le_trans (by decide) hv6.1), hv6.2⟩ ⟨by first | exact rgp_l hv6.1 (by decide) | omega, by first | exact q_8ed797edd h_1 hv4 | omega⟩ (by omega)
          · refine v_if_gt_f (t := 139) rfl rfl ⟨hy_22.1, (Int.not_lt.mp h_23), by decide⟩ (q_iload rfl rfl ?_)
            by_cases h_24 : y_22 ≠ 0
            · refine v_if_ne_t (t := 143) rfl rfl ⟨h_24, ⟨hy_22.1, hy_22.2⟩, by decide, by decide⟩ (v_iinc (v := v6 + 1) rfl rfl (Nat.le_of_ble_eq_true rfl) rfl (q_goto (t := 69) rfl rfl (Wp_ls [(0, .ref 41), (1, vi a1), (2, vi a2), (3, vi a3), (4, vi v4), (5, vi v5), (6, vi (v6 + 1))] (lsub_cons rfl (lsub_cons rfl (lsub_cons rfl (lsub_cons rfl (lsub_cons rfl (lsub_cons rfl (lsub_cons rfl lsub_nil))))))) ?_)))
              exact ih c_18 v4 v5 (v6 + 1) hI_19 (fun a j hm => (hF_20 a j (fun q => q.elim (fun h => hm (Or.inr (Or.inr (Or.inr (Or.inl h))))) (fun h => hm (Or.inr (Or.inr (Or.inr (Or.inr h))))))).trans ((hF_16 a j (fun q => q.elim (fun h => hm (Or.inr (Or.inr (Or.inr (Or.inl h))))) (fun h => hm (Or.inr (Or.inr (Or.inr (Or.inr h))))))).trans (hF a j (fun q => q.elim (fun h => hm (Or.inl h)) (fun q => q.elim (fun h => hm (Or.inr (Or.inl h))) (fun q => q.elim (fun h => hm (Or.inr (Or.inr (Or.inl h)))) (fun q => q.elim (fun h => hm (Or.inr (Or.inr (Or.inr (Or.inl h))))) (fun h => hm (Or.inr (Or.inr (Or.inr (Or.inr h)))))))))))) hv4 hv5 ⟨by first | exact rgp_l hv6.1 (by decide) | omega, by first | exact q_8ed797edd h_1 hv4 | (clear ha1 ha2 ha3 hv5 hv6 h_11 h_13 h_23 h_24; omega) | omega⟩ (by omega)
            · refine v_if_ne_f (t := 143) rfl rfl (Decidable.not_not.mp h_24) (q_aload_n rfl rfl (q_iload rfl rfl (v_cv rfl rfl rfl rfl (Nat.le_of_ble_eq_true rfl) ⟨⟨rfl, rfl⟩, Nat.le_of_ble_eq_true rfl, rfl⟩ (Nat.le_of_ble_eq_true rfl) (Nat.le_of_ble_eq_true rfl) (s_223 (a1 := v6) hI_19 (show (-2147483648) ≤ v6 ∧ v6 ≤ 2147483647 from ⟨(Int.le_trans (by decide) hv6.1), (Int.le_trans hv6.2 (by decide))⟩) (fun y_25 hy_25 => (bk_inl (q_aload_n rfl rfl (q_iload rfl rfl (v_cv rfl rfl rfl rfl (Nat.le_of_ble_eq_true rfl) ⟨⟨rfl, rfl⟩, Nat.le_of_ble_eq_true rfl, rfl⟩ (Nat.le_of_ble_eq_true rfl) (Nat.le_of_ble_eq_true rfl) (s_223 (a1 := v5) hI_19 (show (-2147483648) ≤ v5 ∧ v5 ≤ 2147483647 from ⟨(Int.le_trans (by decide) hv5.1), (Int.le_trans hv5.2 (by decide))⟩) (fun y_26 hy_26 => ?_)))))))))))
              refine bk_inl ?_
              by_cases h_27 : y_25 ≥ y_26
              · refine v_ic_ge_t (t := 143) rfl rfl ⟨hy_26.1, h_27, hy_25.2⟩ (v_iinc (v := v6 + 1) rfl rfl (Nat.le_of_ble_eq_true rfl) rfl (q_goto (t := 69) rfl rfl (Wp_ls [(0, .ref 41), (1, vi a1), (2, vi a2), (3, vi a3), (4, vi v4), (5, vi v5), (6, vi (v6 + 1))] (lsub_cons rfl (lsub_cons rfl (lsub_cons rfl (lsub_cons rfl (lsub_cons rfl (lsub_cons rfl (lsub_cons rfl lsub_nil))))))) ?_)))
                exact ih c_18 v4 v5 (v6 + 1) hI_19 (fun a j hm => (hF_20 a j (fun q => q.elim (fun h => hm (Or.inr (Or.inr (Or.inr (Or.inl h))))) (fun h => hm (Or.inr (Or.inr (Or.inr (Or.inr h))))))).trans ((hF_16 a j (fun q => q.elim (fun h => hm (Or.inr (Or.inr (Or.inr (Or.inl h))))) (fun h => hm (Or.inr (Or.inr (Or.inr (Or.inr h))))))).trans (hF a j (fun q => q.elim (fun h => hm (Or.inl h)) (fun q => q.elim (fun h => hm (Or.inr (Or.inl h))) (fun q => q.elim (fun h => hm (Or.inr (Or.inr (Or.inl h)))) (fun q => q.elim (fun h => hm (Or.inr (Or.inr (Or.inr (Or.inl h))))) (fun h => hm (Or.inr (Or.inr (Or.inr (Or.inr h)))))))))))) hv4 hv5 ⟨by first | exact rgp_l hv6.1 (by decide) | omega, by first | exact q_8ed797edd h_1 hv4 | omega⟩ (by omega)
              · refine v_ic_ge_f (t := 143) rfl rfl ⟨hy_25.1, (Int.not_le.mp h_27), hy_26.2⟩ (q_iload rfl rfl (q_istore rfl (Nat.le_of_ble_eq_true rfl) (v_iinc (v := v6 + 1) rfl rfl (Nat.le_of_ble_eq_true rfl) rfl (q_goto (t := 69) rfl rfl (Wp_ls [(0, .ref 41), (1, vi a1), (2, vi a2), (3, vi a3), (4, vi v4), (5, vi v6), (6, vi (v6 + 1))] (lsub_cons rfl (lsub_cons rfl (lsub_cons rfl (lsub_cons rfl (lsub_cons rfl (lsub_cons rfl (lsub_cons rfl lsub_nil))))))) ?_)))))
                exact ih c_18 v4 v6 (v6 + 1) hI_19 (fun a j hm => (hF_20 a j (fun q => q.elim (fun h => hm (Or.inr (Or.inr (Or.inr (Or.inl h))))) (fun h => hm (Or.inr (Or.inr (Or.inr (Or.inr h))))))).trans ((hF_16 a j (fun q => q.elim (fun h => hm (Or.inr (Or.inr (Or.inr (Or.inl h))))) (fun h => hm (Or.inr (Or.inr (Or.inr (Or.inr h))))))).trans (hF a j (fun q => q.elim (fun h => hm (Or.inl h)) (fun q => q.elim (fun h => hm (Or.inr (Or.inl h))) (fun q => q.elim (fun h => hm (Or.inr (Or.inr (Or.inl h)))) (fun q => q.elim (fun h => hm (Or.inr (Or.inr (Or.inr (Or.inl h))))) (fun h => hm (Or.inr (Or.inr (Or.inr (Or.inr h)))))))))))) hv4 ⟨(Int.le_trans (by decide) hv6.1), hv6.2⟩ ⟨by first | exact rgp_l hv6.1 (by decide) | omega, by first | exact q_8ed797edd h_1 hv4 | omega⟩ (by omega)
        · refine v_ic_le_f (t := 99) rfl rfl ⟨ha2.1, (Int.not_le.mp h_13), hy_12.2⟩ (q_goto (t := 143) rfl rfl (v_iinc (v := v6 + 1) rfl rfl (Nat.le_of_ble_eq_true rfl) rfl (q_goto (t := 69) rfl rfl (Wp_ls [(0, .ref 41), (1, vi a1), (2, vi a2), (3, vi a3), (4, vi v4), (5, vi v5), (6, vi (v6 + 1))] (lsub_cons rfl (lsub_cons rfl (lsub_cons rfl (lsub_cons rfl (lsub_cons rfl (lsub_cons rfl (lsub_cons rfl lsub_nil))))))) ?_))))
          exact ih c2 v4 v5 (v6 + 1) hI2 (fun a j hm => hF a j (fun q => q.elim (fun h => hm (Or.inl h)) (fun q => q.elim (fun h => hm (Or.inr (Or.inl h))) (fun q => q.elim (fun h => hm (Or.inr (Or.inr (Or.inl h)))) (fun q => q.elim (fun h => hm (Or.inr (Or.inr (Or.inr (Or.inl h))))) (fun h => hm (Or.inr (Or.inr (Or.inr (Or.inr h)))))))))) hv4 hv5 ⟨by first | exact rgp_l hv6.1 (by decide) | omega, by first | exact q_8ed797edd h_1 hv4 | omega⟩ (by omega)
set_option maxRecDepth 100000 in
set_option maxHeartbeats 4000000 in
theorem s_228 {sc : List Int32} {d P Q : Nat} {c : ME} {a1 : Int} {a2 : Int} {a3 : Int} {Z : AR → Prop} (hI : Iv 0 (-1) P Q c) (ha1 : (-2147483648) ≤ a1 ∧ a1 ≤ 2147483647) (ha2 : (-2147483648) ≤ a2 ∧ a2 ≤ 2147483647) (ha3 : (-2147483648) ≤ a3 ∧ a3 ≤ 2147483647) (K : ∀ (c2 : ME) (y : Int), Iv 0 (-1) P Q c2 → (∀ (a : Nat) (j : Int), ¬ ((a = 41 ∧ j = 0) ∨ a = 42 ∨ a = 59 ∨ a = 54 ∨ a = 55) → c2 a j = c a j) → (-2147483648) ≤ y ∧ y ≤ 2147483647 → Z (.inl (some (vi y)), Wd P Q P P c2, 0, 0)) : Wp sc (d + 13) 228 0 [(0, .ref 41), (1, vi a1), (2, vi a2), (3, vi a3)] [] (Wd P Q P P c) 0 0 Z := by
  have hP := iv_P hI
  have hQ := iv_Q hI
  refine q_aload_n rfl rfl (q_iconst rfl (v_pi (z := 0) rfl rfl rfl (Nat.le_of_ble_eq_true rfl) rfl rfl rfl (by decide) (q_aload_n rfl rfl (q_aload_n rfl rfl (q_iload_n rfl rfl (v_cv rfl rfl rfl rfl (Nat.le_of_ble_eq_true rfl) ⟨⟨rfl, rfl⟩, Nat.le_of_ble_eq_true rfl, rfl⟩ (Nat.le_of_ble_eq_true rfl) (Nat.le_of_ble_eq_true rfl) (q_iload_n rfl rfl ?_)))))))
  by_cases h_28 : a1 < 0
  · refine v_if_lt_t (t := 18) rfl rfl ⟨ha1.1, h_28, by decide⟩ (q_iconst rfl (v_zret rfl rfl (by decide) (bk_inl (v_if_eq_t (t := 38) rfl rfl (by decide) (q_iconst rfl (q_iconst rfl (q_iconst rfl ?_)))))))
    refine v_cv rfl rfl rfl rfl (Nat.le_of_ble_eq_true rfl) ⟨⟨rfl, rfl⟩, Nat.le_of_ble_eq_true rfl, rfl⟩ (Nat.le_of_ble_eq_true rfl) (Nat.le_of_ble_eq_true rfl) (q_iload_n rfl rfl (v_if_ne_f (t := 26) rfl rfl (by decide) (q_aload_n rfl rfl (v_gi (z := 0) (v := 0) rfl rfl rfl (Nat.le_of_ble_eq_true rfl) rfl rfl (up_e rfl) (v_if_ne_f (t := 26) rfl rfl (by decide) (q_aload_n rfl rfl (q_iload_n rfl rfl ?_)))))))
    refine v_pi (z := 0) rfl rfl rfl (Nat.le_of_ble_eq_true rfl) rfl rfl rfl (by decide) (q_aload_n rfl rfl (v_gr (t := 42) rfl rfl rfl (Nat.le_of_ble_eq_true rfl) rfl (q_iload_n rfl rfl (q_dup2 rfl ⟨rfl, rfl⟩ ?_))))
    have h_29 := ir_42 hI 1
    refine v_ia (v := c 42 1) rfl rfl (by decide) (by decide) (by decide) ((up_c (nn rfl)).trans (up_c (nn rfl))) (q_iconst rfl (v_iadd (v := c 42 1 + 1) rfl rfl (v_nrm (fun y_30 hy_30 => (v_is rfl rfl (by decide) (by decide) (by decide) (q_aload_n rfl rfl (v_gi (z := 0) (v := 1) rfl rfl rfl (Nat.le_of_ble_eq_true rfl) rfl rfl ((up_c (nn rfl)).trans (up_e rfl)) (v_if_ne_t (t := 37) rfl rfl (by decide) ?_))))))))
    refine q_iconst rfl (v_zret rfl rfl (by decide) (bk_inl (v_if_ne_f (t := 49) rfl rfl (by decide) (q_iconst rfl (q_iret rfl rfl ?_)))))
    have hI_31 := iw_41_0 (v := 0) hI ⟨by decide, by decide⟩
    have hI_32 := iw_41_0 (v := 1) hI_31 ⟨by decide, by decide⟩
    have hI_33 := iw_42 (j := 1) (v := y_30) hI_32 ⟨hy_30.1, hy_30.2⟩
    exact K (up (up (up c 41 0 0) 41 0 1) 42 1 y_30) 0 hI_33 (fun a j hm => (up_b (Decidable.or_iff_not_imp_left.mpr (fun h1 h2 => hm (Or.inr (Or.inl (Decidable.not_not.mp h1)))))).trans ((up_b (Decidable.or_iff_not_imp_left.mpr (fun h1 h2 => hm (Or.inl ⟨Decidable.not_not.mp h1, h2⟩)))).trans (up_b (Decidable.or_iff_not_imp_left.mpr (fun h1 h2 => hm (Or.inl ⟨Decidable.not_not.mp h1, h2⟩)))))) ⟨by decide, by decide⟩
  · refine v_if_lt_f (t := 18) rfl rfl ⟨by decide, (Int.not_lt.mp h_28), ha1.2⟩ (q_iload_n rfl rfl (q_iconst rfl (q_aload_n rfl rfl ?_)))
    have h_34 := ir_41_20 hI
    refine v_gi (z := 20) (v := c 41 20) rfl rfl rfl (Nat.le_of_ble_eq_true rfl) rfl rfl (up_n (by decide)) (v_shl1 rfl ⟨by omega, by omega⟩ (fun y_35 hy_35 => ?_))
    by_cases h_36 : a1 ≥ y_35
    · refine v_ic_ge_t (t := 18) rfl rfl ⟨(Int.le_trans (by decide) hy_35.1), h_36, ha1.2⟩ (q_iconst rfl (v_zret rfl rfl (by decide) (bk_inl (v_if_eq_t (t := 38) rfl rfl (by decide) (q_iconst rfl (q_iconst rfl (q_iconst rfl ?_)))))))
      refine v_cv rfl rfl rfl rfl (Nat.le_of_ble_eq_true rfl) ⟨⟨rfl, rfl⟩, Nat.le_of_ble_eq_true rfl, rfl⟩ (Nat.le_of_ble_eq_true rfl) (Nat.le_of_ble_eq_true rfl) (q_iload_n rfl rfl (v_if_ne_f (t := 26) rfl rfl (by decide) (q_aload_n rfl rfl (v_gi (z := 0) (v := 0) rfl rfl rfl (Nat.le_of_ble_eq_true rfl) rfl rfl (up_e rfl) (v_if_ne_f (t := 26) rfl rfl (by decide) (q_aload_n rfl rfl (q_iload_n rfl rfl ?_)))))))
      refine v_pi (z := 0) rfl rfl rfl (Nat.le_of_ble_eq_true rfl) rfl rfl rfl (by decide) (q_aload_n rfl rfl (v_gr (t := 42) rfl rfl rfl (Nat.le_of_ble_eq_true rfl) rfl (q_iload_n rfl rfl (q_dup2 rfl ⟨rfl, rfl⟩ ?_))))
      have h_37 := ir_42 hI 1
      refine v_ia (v := c 42 1) rfl rfl (by decide) (by decide) (by decide) ((up_c (nn rfl)).trans (up_c (nn rfl))) (q_iconst rfl (v_iadd (v := c 42 1 + 1) rfl rfl (v_nrm (fun y_38 hy_38 => (v_is rfl rfl (by decide) (by decide) (by decide) (q_aload_n rfl rfl (v_gi (z := 0) (v := 1) rfl rfl rfl (Nat.le_of_ble_eq_true rfl) rfl rfl ((up_c (nn rfl)).trans (up_e rfl)) (v_if_ne_t (t := 37) rfl rfl (by decide) ?_))))))))
      refine q_iconst rfl (v_zret rfl rfl (by decide) (bk_inl (v_if_ne_f (t := 49) rfl rfl (by decide) (q_iconst rfl (q_iret rfl rfl ?_)))))
      have hI_39 := iw_41_0 (v := 0) hI ⟨by decide, by decide⟩
      have hI_40 := iw_41_0 (v := 1) hI_39 ⟨by decide, by decide⟩
      have hI_41 := iw_42 (j := 1) (v := y_38) hI_40 ⟨hy_38.1, hy_38.2⟩
      exact K (up (up (up c 41 0 0) 41 0 1) 42 1 y_38) 0 hI_41 (fun a j hm => (up_b (Decidable.or_iff_not_imp_left.mpr (fun h1 h2 => hm (Or.inr (Or.inl (Decidable.not_not.mp h1)))))).trans ((up_b (Decidable.or_iff_not_imp_left.mpr (fun h1 h2 => hm (Or.inl ⟨Decidable.not_not.mp h1, h2⟩)))).trans (up_b (Decidable.or_iff_not_imp_left.mpr (fun h1 h2 => hm (Or.inl ⟨Decidable.not_not.mp h1, h2⟩)))))) ⟨by decide, by decide⟩
    · refine v_ic_ge_f (t := 18) rfl rfl ⟨ha1.1, (Int.not_le.mp h_36), (Int.le_trans hy_35.2 (by decide))⟩ (q_iconst rfl (q_goto (t := 19) rfl rfl (v_zret rfl rfl (by decide) (bk_inl (v_if_eq_f (t := 38) rfl rfl (by decide) (q_iload_n rfl rfl (q_iconst rfl ?_)))))))
      refine v_ldcw (n := 99999) rfl rfl (by decide +kernel) (q_call rfl rfl rfl rfl (q_iload_n rfl rfl (q_iload_n rfl rfl ?_)))
      by_cases h_42 : a2 < 0
      · refine v_ic_lt_t (t := 14) rfl rfl ⟨ha2.1, h_42, by decide⟩ (q_iconst rfl (v_zret rfl rfl (by decide) (bk_inl (v_if_eq_t (t := 38) rfl rfl (by decide) (q_iconst rfl (q_iconst rfl (q_iconst rfl ?_)))))))
        refine v_cv rfl rfl rfl rfl (Nat.le_of_ble_eq_true rfl) ⟨⟨rfl, rfl⟩, Nat.le_of_ble_eq_true rfl, rfl⟩ (Nat.le_of_ble_eq_true rfl) (Nat.le_of_ble_eq_true rfl) (q_iload_n rfl rfl (v_if_ne_f (t := 26) rfl rfl (by decide) (q_aload_n rfl rfl (v_gi (z := 0) (v := 0) rfl rfl rfl (Nat.le_of_ble_eq_true rfl) rfl rfl (up_e rfl) (v_if_ne_f (t := 26) rfl rfl (by decide) (q_aload_n rfl rfl (q_iload_n rfl rfl ?_)))))))
        refine v_pi (z := 0) rfl rfl rfl (Nat.le_of_ble_eq_true rfl) rfl rfl rfl (by decide) (q_aload_n rfl rfl (v_gr (t := 42) rfl rfl rfl (Nat.le_of_ble_eq_true rfl) rfl (q_iload_n rfl rfl (q_dup2 rfl ⟨rfl, rfl⟩ ?_))))
        have h_43 := ir_42 hI 1
        refine v_ia (v := c 42 1) rfl rfl (by decide) (by decide) (by decide) ((up_c (nn rfl)).trans (up_c (nn rfl))) (q_iconst rfl (v_iadd (v := c 42 1 + 1) rfl rfl (v_nrm (fun y_44 hy_44 => (v_is rfl rfl (by decide) (by decide) (by decide) (q_aload_n rfl rfl (v_gi (z := 0) (v := 1) rfl rfl rfl (Nat.le_of_ble_eq_true rfl) rfl rfl ((up_c (nn rfl)).trans (up_e rfl)) (v_if_ne_t (t := 37) rfl rfl (by decide) ?_))))))))
        refine q_iconst rfl (v_zret rfl rfl (by decide) (bk_inl (v_if_ne_f (t := 49) rfl rfl (by decide) (q_iconst rfl (q_iret rfl rfl ?_)))))
        have hI_45 := iw_41_0 (v := 0) hI ⟨by decide, by decide⟩
        have hI_46 := iw_41_0 (v := 1) hI_45 ⟨by decide, by decide⟩
        have hI_47 := iw_42 (j := 1) (v := y_44) hI_46 ⟨hy_44.1, hy_44.2⟩
        exact K (up (up (up c 41 0 0) 41 0 1) 42 1 y_44) 0 hI_47 (fun a j hm => (up_b (Decidable.or_iff_not_imp_left.mpr (fun h1 h2 => hm (Or.inr (Or.inl (Decidable.not_not.mp h1)))))).trans ((up_b (Decidable.or_iff_not_imp_left.mpr (fun h1 h2 => hm (Or.inl ⟨Decidable.not_not.mp h1, h2⟩)))).trans (up_b (Decidable.or_iff_not_imp_left.mpr (fun h1 h2 => hm (Or.inl ⟨Decidable.not_not.mp h1, h2⟩)))))) ⟨by decide, by decide⟩
      · refine v_ic_lt_f (t := 14) rfl rfl ⟨by decide, (Int.not_lt.mp h_42), ha2.2⟩ (q_iload_n rfl rfl (q_iload_n rfl rfl ?_))
        by_cases h_48 : a2 > 99999
        · refine v_ic_gt_t (t := 14) rfl rfl ⟨by decide, h_48, ha2.2⟩ (q_iconst rfl (v_zret rfl rfl (by decide) (bk_inl (v_if_eq_t (t := 38) rfl rfl (by decide) (q_iconst rfl (q_iconst rfl (q_iconst rfl ?_)))))))
          refine v_cv rfl rfl rfl rfl (Nat.le_of_ble_eq_true rfl) ⟨⟨rfl, rfl⟩, Nat.le_of_ble_eq_true rfl, rfl⟩ (Nat.le_of_ble_eq_true rfl) (Nat.le_of_ble_eq_true rfl) (q_iload_n rfl rfl (v_if_ne_f (t := 26) rfl rfl (by decide) (q_aload_n rfl rfl (v_gi (z := 0) (v := 0) rfl rfl rfl (Nat.le_of_ble_eq_true rfl) rfl rfl (up_e rfl) (v_if_ne_f (t := 26) rfl rfl (by decide) (q_aload_n rfl rfl (q_iload_n rfl rfl ?_)))))))
          refine v_pi (z := 0) rfl rfl rfl (Nat.le_of_ble_eq_true rfl) rfl rfl rfl (by decide) (q_aload_n rfl rfl (v_gr (t := 42) rfl rfl rfl (Nat.le_of_ble_eq_true rfl) rfl (q_iload_n rfl rfl (q_dup2 rfl ⟨rfl, rfl⟩ ?_))))
          have h_49 := ir_42 hI 1
          refine v_ia (v := c 42 1) rfl rfl (by decide) (by decide) (by decide) ((up_c (nn rfl)).trans (up_c (nn rfl))) (q_iconst rfl (v_iadd (v := c 42 1 + 1) rfl rfl (v_nrm (fun y_50 hy_50 => (v_is rfl rfl (by decide) (by decide) (by decide) (q_aload_n rfl rfl (v_gi (z := 0) (v := 1) rfl rfl rfl (Nat.le_of_ble_eq_true rfl) rfl rfl ((up_c (nn rfl)).trans (up_e rfl)) (v_if_ne_t (t := 37) rfl rfl (by decide) ?_))))))))
          refine q_iconst rfl (v_zret rfl rfl (by decide) (bk_inl (v_if_ne_f (t := 49) rfl rfl (by decide) (q_iconst rfl (q_iret rfl rfl ?_)))))
          have hI_51 := iw_41_0 (v := 0) hI ⟨by decide, by decide⟩
          have hI_52 := iw_41_0 (v := 1) hI_51 ⟨by decide, by decide⟩
          have hI_53 := iw_42 (j := 1) (v := y_50) hI_52 ⟨hy_50.1, hy_50.2⟩
          exact K (up (up (up c 41 0 0) 41 0 1) 42 1 y_50) 0 hI_53 (fun a j hm => (up_b (Decidable.or_iff_not_imp_left.mpr (fun h1 h2 => hm (Or.inr (Or.inl (Decidable.not_not.mp h1)))))).trans ((up_b (Decidable.or_iff_not_imp_left.mpr (fun h1 h2 => hm (Or.inl ⟨Decidable.not_not.mp h1, h2⟩)))).trans (up_b (Decidable.or_iff_not_imp_left.mpr (fun h1 h2 => hm (Or.inl ⟨Decidable.not_not.mp h1, h2⟩)))))) ⟨by decide, by decide⟩
        · refine v_ic_gt_f (t := 14) rfl rfl ⟨ha2.1, (Int.not_lt.mp h_48), by decide⟩ (q_iconst rfl (q_goto (t := 15) rfl rfl (v_zret rfl rfl (by decide) (bk_inl (v_if_eq_f (t := 38) rfl rfl (by decide) (q_iload_n rfl rfl (q_iconst rfl ?_)))))))
          refine q_iconst rfl (q_call rfl rfl rfl rfl (q_iload_n rfl rfl (q_iload_n rfl rfl ?_)))
          by_cases h_54 : a3 < 0
          · refine v_ic_lt_t (t := 14) rfl rfl ⟨ha3.1, h_54, by decide⟩ (q_iconst rfl (v_zret rfl rfl (by decide) (bk_inl (v_if_eq_t (t := 38) rfl rfl (by decide) (q_iconst rfl (q_iconst rfl (q_iconst rfl ?_)))))))
            refine v_cv rfl rfl rfl rfl (Nat.le_of_ble_eq_true rfl) ⟨⟨rfl, rfl⟩, Nat.le_of_ble_eq_true rfl, rfl⟩ (Nat.le_of_ble_eq_true rfl) (Nat.le_of_ble_eq_true rfl) (q_iload_n rfl rfl (v_if_ne_f (t := 26) rfl rfl (by decide) (q_aload_n rfl rfl (v_gi (z := 0) (v := 0) rfl rfl rfl (Nat.le_of_ble_eq_true rfl) rfl rfl (up_e rfl) (v_if_ne_f (t := 26) rfl rfl (by decide) (q_aload_n rfl rfl (q_iload_n rfl rfl ?_)))))))
            refine v_pi (z := 0) rfl rfl rfl (Nat.le_of_ble_eq_true rfl) rfl rfl rfl (by decide) (q_aload_n rfl rfl (v_gr (t := 42) rfl rfl rfl (Nat.le_of_ble_eq_true rfl) rfl (q_iload_n rfl rfl (q_dup2 rfl ⟨rfl, rfl⟩ ?_))))
            have h_55 := ir_42 hI 1
            refine v_ia (v := c 42 1) rfl rfl (by decide) (by decide) (by decide) ((up_c (nn rfl)).trans (up_c (nn rfl))) (q_iconst rfl (v_iadd (v := c 42 1 + 1) rfl rfl (v_nrm (fun y_56 hy_56 => (v_is rfl rfl (by decide) (by decide) (by decide) (q_aload_n rfl rfl (v_gi (z := 0) (v := 1) rfl rfl rfl (Nat.le_of_ble_eq_true rfl) rfl rfl ((up_c (nn rfl)).trans (up_e rfl)) (v_if_ne_t (t := 37) rfl rfl (by decide) ?_))))))))
            refine q_iconst rfl (v_zret rfl rfl (by decide) (bk_inl (v_if_ne_f (t := 49) rfl rfl (by decide) (q_iconst rfl (q_iret rfl rfl ?_)))))
            have hI_57 := iw_41_0 (v := 0) hI ⟨by decide, by decide⟩
            have hI_58 := iw_41_0 (v := 1) hI_57 ⟨by decide, by decide⟩
            have hI_59 := iw_42 (j := 1) (v := y_56) hI_58 ⟨hy_56.1, hy_56.2⟩
            exact K (up (up (up c 41 0 0) 41 0 1) 42 1 y_56) 0 hI_59 (fun a j hm => (up_b (Decidable.or_iff_not_imp_left.mpr (fun h1 h2 => hm (Or.inr (Or.inl (Decidable.not_not.mp h1)))))).trans ((up_b (Decidable.or_iff_not_imp_left.mpr (fun h1 h2 => hm (Or.inl ⟨Decidable.not_not.mp h1, h2⟩)))).trans (up_b (Decidable.or_iff_not_imp_left.mpr (fun h1 h2 => hm (Or.inl ⟨Decidable.not_not.mp h1, h2⟩)))))) ⟨by decide, by decide⟩
          · refine v_ic_lt_f (t := 14) rfl rfl ⟨by decide, (Int.not_lt.mp h_54), ha3.2⟩ (q_iload_n rfl rfl (q_iload_n rfl rfl ?_))
            by_cases h_60 : a3 > 2
            · refine v_ic_gt_t (t := 14) rfl rfl ⟨by decide, h_60, ha3.2⟩ (q_iconst rfl (v_zret rfl rfl (by decide) (bk_inl (v_if_eq_t (t := 38) rfl rfl (by decide) (q_iconst rfl (q_iconst rfl (q_iconst rfl ?_)))))))
              refine v_cv rfl rfl rfl rfl (Nat.le_of_ble_eq_true rfl) ⟨⟨rfl, rfl⟩, Nat.le_of_ble_eq_true rfl, rfl⟩ (Nat.le_of_ble_eq_true rfl) (Nat.le_of_ble_eq_true rfl) (q_iload_n rfl rfl (v_if_ne_f (t := 26) rfl rfl (by decide) (q_aload_n rfl rfl (v_gi (z := 0) (v := 0) rfl rfl rfl (Nat.le_of_ble_eq_true rfl) rfl rfl (up_e rfl) (v_if_ne_f (t := 26) rfl rfl (by decide) (q_aload_n rfl rfl (q_iload_n rfl rfl ?_)))))))
              refine v_pi (z := 0) rfl rfl rfl (Nat.le_of_ble_eq_true rfl) rfl rfl rfl (by decide) (q_aload_n rfl rfl (v_gr (t := 42) rfl rfl rfl (Nat.le_of_ble_eq_true rfl) rfl (q_iload_n rfl rfl (q_dup2 rfl ⟨rfl, rfl⟩ ?_))))
              have h_61 := ir_42 hI 1
              refine v_ia (v := c 42 1) rfl rfl (by decide) (by decide) (by decide) ((up_c (nn rfl)).trans (up_c (nn rfl))) (q_iconst rfl (v_iadd (v := c 42 1 + 1) rfl rfl (v_nrm (fun y_62 hy_62 => (v_is rfl rfl (by decide) (by decide) (by decide) (q_aload_n rfl rfl (v_gi (z := 0) (v := 1) rfl rfl rfl (Nat.le_of_ble_eq_true rfl) rfl rfl ((up_c (nn rfl)).trans (up_e rfl)) (v_if_ne_t (t := 37) rfl rfl (by decide) ?_))))))))
              refine q_iconst rfl (v_zret rfl rfl (by decide) (bk_inl (v_if_ne_f (t := 49) rfl rfl (by decide) (q_iconst rfl (q_iret rfl rfl ?_)))))
              have hI_63 := iw_41_0 (v := 0) hI ⟨by decide, by decide⟩
              have hI_64 := iw_41_0 (v := 1) hI_63 ⟨by decide, by decide⟩
              have hI_65 := iw_42 (j := 1) (v := y_62) hI_64 ⟨hy_62.1, hy_62.2⟩
              exact K (up (up (up c 41 0 0) 41 0 1) 42 1 y_62) 0 hI_65 (fun a j hm => (up_b (Decidable.or_iff_not_imp_left.mpr (fun h1 h2 => hm (Or.inr (Or.inl (Decidable.not_not.mp h1)))))).trans ((up_b (Decidable.or_iff_not_imp_left.mpr (fun h1 h2 => hm (Or.inl ⟨Decidable.not_not.mp h1, h2⟩)))).trans (up_b (Decidable.or_iff_not_imp_left.mpr (fun h1 h2 => hm (Or.inl ⟨Decidable.not_not.mp h1, h2⟩)))))) ⟨by decide, by decide⟩
            · refine v_ic_gt_f (t := 14) rfl rfl ⟨ha3.1, (Int.not_lt.mp h_60), by decide⟩ (q_iconst rfl (q_goto (t := 15) rfl rfl (v_zret rfl rfl (by decide) (bk_inl (v_if_eq_f (t := 38) rfl rfl (by decide) (q_iconst rfl (q_goto (t := 39) rfl rfl ?_)))))))
              refine q_iconst rfl (q_iconst rfl (v_cv rfl rfl rfl rfl (Nat.le_of_ble_eq_true rfl) ⟨⟨rfl, rfl⟩, Nat.le_of_ble_eq_true rfl, rfl⟩ (Nat.le_of_ble_eq_true rfl) (Nat.le_of_ble_eq_true rfl) (q_iload_n rfl rfl (v_if_ne_t (t := 26) rfl rfl (by decide) (q_aload_n rfl rfl (v_gi (z := 0) (v := 0) rfl rfl rfl (Nat.le_of_ble_eq_true rfl) rfl rfl (up_e rfl) (v_if_ne_f (t := 37) rfl rfl (by decide) ?_)))))))
              refine q_iconst rfl (q_goto (t := 38) rfl rfl (v_zret rfl rfl (by decide) (bk_inl (v_if_ne_t (t := 49) rfl rfl (by decide) (q_aload_n rfl rfl ?_)))))
              have hI_66 := iw_41_0 (v := 0) hI ⟨by decide, by decide⟩
              refine v_cv rfl rfl rfl rfl (Nat.le_of_ble_eq_true rfl) ⟨⟨rfl, rfl⟩, Nat.le_of_ble_eq_true rfl, rfl⟩ (Nat.le_of_ble_eq_true rfl) (Nat.le_of_ble_eq_true rfl) (s_186 hI_66 (fun c_67 hI_68 hF_69 => (bk_inl (q_iload_n rfl rfl (q_aload_n rfl rfl (v_cv rfl rfl rfl rfl (Nat.le_of_ble_eq_true rfl) ⟨⟨rfl, rfl⟩, Nat.le_of_ble_eq_true rfl, rfl⟩ (Nat.le_of_ble_eq_true rfl) (Nat.le_of_ble_eq_true rfl) (s_209 hI_68 (fun y_70 hy_70 => (bk_inl (q_iconst rfl (v_ixorx rfl (fun y_71 hy_71 => ?_))))))))))))
              refine v_iandl rfl ⟨by omega, by omega⟩ (fun y_72 hy_72 => (q_istore rfl (Nat.le_of_ble_eq_true rfl) (q_iconst rfl (q_istore rfl (Nat.le_of_ble_eq_true rfl) (q_iconst rfl (q_istore rfl (Nat.le_of_ble_eq_true rfl) (Wp_ls [(0, .ref 41), (1, vi a1), (2, vi a2), (3, vi a3), (4, vi y_72), (5, vi 0), (6, vi 1)] (lsub_cons rfl (lsub_cons rfl (lsub_cons rfl (lsub_cons rfl (lsub_cons rfl (lsub_cons rfl (lsub_cons rfl lsub_nil))))))) ?_)))))))
              exact (s_228_l (sc := sc) (d := d) hI ha1 ha2 ha3 K 130) c_67 y_72 0 1 hI_68 (fun a j hm => (hF_69 a j (fun h => hm (Or.inr (Or.inr (Or.inl h))))).trans (up_b (Decidable.or_iff_not_imp_left.mpr (fun h1 h2 => hm (Or.inl ⟨Decidable.not_not.mp h1, h2⟩))))) ⟨by omega, by omega⟩ ⟨by decide, by decide⟩ ⟨by decide, by decide⟩ (by omega)

set_option maxRecDepth 100000 in
set_option maxHeartbeats 4000000 in
theorem s_229_l {sc : List Int32} {e : Int} {d u P Q : Nat} {c : ME} {a1 : Int} {a2 : Int} {Z : AR → Prop} (hI : Iv u e P Q c) (ha1 : 0 ≤ a1 ∧ a1 ≤ 3) (ha2 : 0 ≤ a2 ∧ a2 ≤ 5) (K : ∀ (y : Int), 0 ≤ y ∧ y ≤ 1 → Z (.inl (some (vi y)), Wd P Q P P c, 0, 0)) : ∀ n : Nat, (∀ (v3 : Int), 0 ≤ v3 ∧ v3 ≤ 4 → 9 - 2 * v3 < (n : Int) → Wp sc (d + 8) 229 12 [(0, .ref 41), (1, vi a1), (2, vi a2), (3, vi v3)] [] (Wd P Q P P c) 0 0 Z)
  | 0 => by intro v3 hv3 hm9; have hP := iv_P hI; have hQ := iv_Q hI; exfalso; omega
  | n + 1 => by
    have hP := iv_P hI
    have hQ := iv_Q hI
    have ih := s_229_l (sc := sc) (d := d) hI ha1 ha2 K n
    intro v3 hv3 hm9
    refine q_iload_n rfl rfl (q_iconst rfl ?_)
    by_cases h_1 : v3 ≥ 4
    · refine v_ic_ge_t (t := 51) rfl rfl ⟨by decide, h_1, (Int.le_trans hv3.2 (by decide))⟩ (q_iconst rfl (v_zret rfl rfl (by decide) ?_))
      exact K 1 ⟨by decide, by decide⟩
    · refine v_ic_ge_f (t := 51) rfl rfl ⟨(Int.le_trans (by decide) hv3.1), (Int.not_le.mp h_1), by decide⟩ (q_aload_n rfl rfl (v_gr (t := 64) rfl rfl rfl (Nat.le_of_ble_eq_true rfl) rfl (q_iload_n rfl rfl ?_)))
      have h_2 := ir_64 hI v3
      refine v_ia (v := c 64 v3) rfl rfl (by decide) (by decide) ⟨hv3.1, by first | exact q_2e808647e h_1 | omega⟩ rfl (q_iconst rfl ?_)
      by_cases h_3 : c 64 v3 = (-1)
      · refine v_ic_eq_t (t := 45) rfl rfl h_3 (v_iinc (v := v3 + 1) rfl rfl (Nat.le_of_ble_eq_true rfl) rfl (q_goto (t := 12) rfl rfl (Wp_ls [(0, .ref 41), (1, vi a1), (2, vi a2), (3, vi (v3 + 1))] (lsub_cons rfl (lsub_cons rfl (lsub_cons rfl (lsub_cons rfl lsub_nil)))) ?_)))
        exact ih (v3 + 1) ⟨by first | exact rgp_l hv3.1 (by decide) | omega, by first | exact q_121241f94 h_1 | omega⟩ (by omega)
      · refine v_ic_eq_f (t := 45) rfl rfl ⟨h_3, ⟨(Int.le_trans (by decide) h_2.1), (Int.le_trans h_2.2 (by decide))⟩, by decide, by decide⟩ (q_aload_n rfl rfl (q_iload_n rfl rfl (q_iload_n rfl rfl (q_iload_n rfl rfl ?_))))
        have h_4 := ir_49 hI a1
        have h_5 := ir_59 hI (a1 + 30)
        have h_6 := ir_59_g hI (j := 4 * a2 + v3) (by first | exact q_e3e978779 h_1 ha2 | (clear ha1 hv3 h_2 h_4 h_5 h_3; omega) | omega)
        have h_7 := fal_rng (m := c 49 a1) (t := c 59 (a1 + 30)) (g := v3) (x := c 59 (4 * a2 + v3)) (by omega)
        refine v_cv rfl rfl rfl rfl (Nat.le_of_ble_eq_true rfl) ⟨⟨rfl, rfl⟩, Nat.le_of_ble_eq_true rfl, rfl⟩ (Nat.le_of_ble_eq_true rfl) (Nat.le_of_ble_eq_true rfl) (s_189 (v1 := c 49 a1) (v2 := c 59 (a1 + 30)) (v3 := c 59 (4 * a2 + v3)) (r := (fal (c 49 a1) (c 59 (a1 + 30)) v3 (c 59 (4 * a2 + v3)))) (a1 := a1) (a2 := a2) (a3 := v3) hI (show 0 ≤ a1 ∧ a1 ≤ 3 from ha1) (show 0 ≤ a2 ∧ a2 ≤ 5 from ha2) (show 0 ≤ v3 ∧ v3 ≤ 3 from ⟨hv3.1, by first | exact q_482ef8d41 h_1 | (clear ha1 ha2 hv3 h_2 h_3; omega) | omega⟩) (rfl) (rfl) (rfl) rfl (bk_inl (q_aload_n rfl rfl (v_gr (t := 64) rfl rfl rfl (Nat.le_of_ble_eq_true rfl) rfl (q_iload_n rfl rfl (v_ia (v := c 64 v3) rfl rfl (by decide) (by decide) ⟨hv3.1, by first | exact q_2e808647e h_1 | (clear ha1 ha2 hv3 h_2 h_4 h_5 h_6 h_7 h_3; omega) | omega⟩ rfl ?_))))))
        by_cases h_8 : (fal (c 49 a1) (c 59 (a1 + 30)) v3 (c 59 (4 * a2 + v3))) = c 64 v3
        · refine v_ic_eq_t (t := 45) rfl rfl h_8 (v_iinc (v := v3 + 1) rfl rfl (Nat.le_of_ble_eq_true rfl) rfl (q_goto (t := 12) rfl rfl (Wp_ls [(0, .ref 41), (1, vi a1), (2, vi a2), (3, vi (v3 + 1))] (lsub_cons rfl (lsub_cons rfl (lsub_cons rfl (lsub_cons rfl lsub_nil)))) ?_)))
          exact ih (v3 + 1) ⟨by first | exact rgp_l hv3.1 (by decide) | omega, by first | exact q_121241f94 h_1 | (clear ha1 ha2 hv3 h_2 h_4 h_5 h_6 h_7 h_8 h_3; omega) | omega⟩ (by omega)
        · refine v_ic_eq_f (t := 45) rfl rfl ⟨h_8, ⟨by first | (clear ha1 ha2 hv3 h_1 h_2 h_4 h_5 h_6 h_3; omega) | omega, by first | (clear ha1 ha2 hv3 h_1 h_2 h_4 h_5 h_3; omega) | omega⟩, (Int.le_trans (by decide) h_2.1), (Int.le_trans h_2.2 (by decide))⟩ (q_iconst rfl (v_zret rfl rfl (by decide) ?_))
          exact K 0 ⟨by decide, by decide⟩
set_option maxRecDepth 100000 in
set_option maxHeartbeats 4000000 in
theorem s_229 {sc : List Int32} {e : Int} {d u P Q : Nat} {c : ME} {a1 : Int} {a2 : Int} {Z : AR → Prop} (hI : Iv u e P Q c) (ha1 : 0 ≤ a1 ∧ a1 ≤ 3) (ha2 : 0 ≤ a2 ∧ a2 ≤ 5) (K : ∀ (y : Int), 0 ≤ y ∧ y ≤ 1 → Z (.inl (some (vi y)), Wd P Q P P c, 0, 0)) : Wp sc (d + 8) 229 0 [(0, .ref 41), (1, vi a1), (2, vi a2)] [] (Wd P Q P P c) 0 0 Z := by
  have hP := iv_P hI
  have hQ := iv_Q hI
  refine q_aload_n rfl rfl (q_iload_n rfl rfl ?_)
  have h_9 := ir_59_g hI (j := 4 * a2) (by first | exact q_9f1d5ffdc ha2 | omega)
  have h_10 := ir_59_g hI (j := 4 * a2 + 1) (by first | exact q_0a2ee6f8f ha2 | omega)
  have h_11 := ir_59_g hI (j := 4 * a2 + 2) (by first | exact q_e07a293a2 ha2 | omega)
  have h_12 := ir_59_g hI (j := 4 * a2 + 3) (by first | exact q_d09cb0b73 ha2 | omega)
  refine v_cv rfl rfl rfl rfl (Nat.le_of_ble_eq_true rfl) ⟨⟨rfl, rfl⟩, Nat.le_of_ble_eq_true rfl, rfl⟩ (Nat.le_of_ble_eq_true rfl) (Nat.le_of_ble_eq_true rfl) (s_187 (v1 := c 59 (4 * a2)) (v2 := c 59 (4 * a2 + 1)) (v3 := c 59 (4 * a2 + 2)) (v4 := c 59 (4 * a2 + 3)) (r := c 59 (4 * a2 + 1) + c 59 (4 * a2 + 2) + c 59 (4 * a2 + 3) + c 59 (4 * a2)) (a1 := a2) hI (show 0 ≤ a2 ∧ a2 ≤ 5 from ha2) (rfl) (rfl) (rfl) (rfl) (by omega) (bk_inl ?_))
  by_cases h_13 : c 59 (4 * a2 + 1) + c 59 (4 * a2 + 2) + c 59 (4 * a2 + 3) + c 59 (4 * a2) ≠ 0
  · refine v_if_ne_t (t := 10) rfl rfl ⟨h_13, ⟨by first | exact q_8c4697e7c h_10 h_11 h_12 h_9 | omega, by first | exact q_46d991406 h_10 h_11 h_12 h_9 | omega⟩, by decide, by decide⟩ (q_iconst rfl (q_istore_n rfl (Nat.le_of_ble_eq_true rfl) (Wp_ls [(0, .ref 41), (1, vi a1), (2, vi a2), (3, vi 0)] (lsub_cons rfl (lsub_cons rfl (lsub_cons rfl (lsub_cons rfl lsub_nil)))) ?_)))
    exact (s_229_l (sc := sc) (d := d) hI ha1 ha2 K 12) 0 ⟨by decide, by decide⟩ (by omega)
  · refine v_if_ne_f (t := 10) rfl rfl (Decidable.not_not.mp h_13) (q_iconst rfl (v_zret rfl rfl (by decide) ?_))
    exact K 0 ⟨by decide, by decide⟩

set_option maxRecDepth 100000 in
set_option maxHeartbeats 4000000 in
theorem s_230_l {sc : List Int32} {d P Q : Nat} {c : ME} {a1 : Int} {Z : AR → Prop} (hI : Iv 0 (-1) P Q c) (ha1 : (-2147483648) ≤ a1 ∧ a1 ≤ 2147483647) (K : ∀ (c2 : ME) (y : Int), Iv 0 (-1) P Q c2 → (∀ (a : Nat) (j : Int), ¬ ((a = 41 ∧ j = 0) ∨ a = 42 ∨ a = 59) → c2 a j = c a j) → (-2147483648) ≤ y ∧ y ≤ 2147483647 → Z (.inl (some (vi y)), Wd P Q P P c2, 0, 0)) : ∀ n : Nat, (∀ (c2 : ME) (v2 : Int) (v3 : Int) (v4 : Int), Iv 0 (-1) P Q c2 → (∀ (a : Nat) (j : Int), ¬ ((a = 41 ∧ j = 0) ∨ a = 42 ∨ a = 59) → c2 a j = c a j) → (-2147483648) ≤ v2 ∧ v2 ≤ 2147483647 → (-2147483648) ≤ v3 ∧ v3 ≤ 2147483647 → 0 ≤ v4 ∧ v4 ≤ 24 → 49 - 2 * v4 < (n : Int) → Wp sc (d + 9) 230 33 [(0, .ref 41), (1, vi a1), (2, vi v2), (3, vi v3), (4, vi v4)] [] (Wd P Q P P c2) 0 0 Z)
  | 0 => by intro c2 v2 v3 v4 hI2 hF hv2 hv3 hv4 hm9; have hP := iv_P hI; have hQ := iv_Q hI; exfalso; omega
  | n + 1 => by
    have hP := iv_P hI
    have hQ := iv_Q hI
    have ih := s_230_l (sc := sc) (d := d) hI ha1 K n
    intro c2 v2 v3 v4 hI2 hF hv2 hv3 hv4 hm9
    refine q_iload rfl rfl (q_aload_n rfl rfl ?_)
    have h_1 := ir_41_22 hI
    have kn_2 : Hid (c2 41 22 = c 41 22) := hF 41 22 (fun q => q.elim (fun h => absurd h.2 (ni rfl)) (fun q => q.elim (fun h => absurd h (nn rfl)) (fun h => absurd h (nn rfl))))
    refine v_gi (z := 22) (v := c 41 22) rfl rfl rfl (Nat.le_of_ble_eq_true rfl) rfl rfl (hid kn_2) (q_aload_n rfl rfl ?_)
    have h_3 := ir_41_20 hI
    have kn_4 : Hid (c2 41 20 = c 41 20) := hF 41 20 (fun q => q.elim (fun h => absurd h.2 (ni rfl)) (fun q => q.elim (fun h => absurd h (nn rfl)) (fun h => absurd h (nn rfl))))
    refine v_gi (z := 20) (v := c 41 20) rfl rfl rfl (Nat.le_of_ble_eq_true rfl) rfl rfl (hid kn_4) ?_
    have h_5 : 0 ≤ (c 41 22) * (c 41 20) ∧ (c 41 22) * (c 41 20) ≤ 6 * (c 41 22) := mul_bd (by omega) (by omega) (by omega)
    have h_6 : 0 ≤ (c 41 22) * (c 41 20) ∧ (c 41 22) * (c 41 20) ≤ 4 * (c 41 20) := mul_bd2 (by omega) (by omega) (by omega)
    refine v_imul (v := ((c 41 22) * (c 41 20))) rfl rfl ?_
    by_cases h_7 : v4 ≥ ((c 41 22) * (c 41 20))
    · refine v_ic_ge_t (t := 108) rfl rfl ⟨by omega, h_7, (Int.le_trans hv4.2 (by decide))⟩ (q_iload_n rfl rfl ?_)
      by_cases h_8 : a1 ≠ 0
      · refine v_if_ne_t (t := 116) rfl rfl ⟨h_8, ⟨ha1.1, ha1.2⟩, by decide, by decide⟩ (q_iload_n rfl rfl (q_iret rfl rfl ?_))
        exact K c2 v3 hI2 (fun a j hm => hF a j (fun q => q.elim (fun h => hm (Or.inl h)) (fun q => q.elim (fun h => hm (Or.inr (Or.inl h))) (fun h => hm (Or.inr (Or.inr h)))))) hv3
      · refine v_if_ne_f (t := 116) rfl rfl (Decidable.not_not.mp h_8) (q_iload_n rfl rfl (q_goto (t := 117) rfl rfl (q_iret rfl rfl ?_)))
        exact K c2 v2 hI2 (fun a j hm => hF a j (fun q => q.elim (fun h => hm (Or.inl h)) (fun q => q.elim (fun h => hm (Or.inr (Or.inl h))) (fun h => hm (Or.inr (Or.inr h)))))) hv2
    · refine v_ic_ge_f (t := 108) rfl rfl ⟨(Int.le_trans (by decide) hv4.1), (Int.not_le.mp h_7), by omega⟩ (q_aload_n rfl rfl (q_iload rfl rfl (q_aload_n rfl rfl (v_gi (z := 20) (v := c 41 20) rfl rfl rfl (Nat.le_of_ble_eq_true rfl) rfl rfl (hid kn_4) ?_))))
      have h_9 : 0 ≤ (v4 / (c 41 20)) ∧ (v4 / (c 41 20)) < c 41 22 := div_lt (by omega) (by omega) (by omega)
      refine v_idiv (v := (v4 / (c 41 20))) rfl (by omega) rfl (q_iload rfl rfl (q_aload_n rfl rfl (v_gi (z := 20) (v := c 41 20) rfl rfl rfl (Nat.le_of_ble_eq_true rfl) rfl rfl (hid kn_4) ?_)))
      have h_10 : 0 ≤ (v4 % (c 41 20)) ∧ (v4 % (c 41 20)) < c 41 20 := rem_bd (by omega)
      refine v_irem (v := (v4 % (c 41 20))) rfl (by omega) rfl (v_cv rfl rfl rfl rfl (Nat.le_of_ble_eq_true rfl) ⟨⟨rfl, rfl⟩, Nat.le_of_ble_eq_true rfl, rfl⟩ (Nat.le_of_ble_eq_true rfl) (Nat.le_of_ble_eq_true rfl) (s_229 (a1 := (v4 / (c 41 20))) (a2 := (v4 % (c 41 20))) hI2 (show 0 ≤ (v4 / (c 41 20)) ∧ (v4 / (c 41 20)) ≤ 3 from ⟨by first | exact q_c4fec1d75 h_9 | omega, by first | exact q_6b730c0e0 h_1 h_9 | omega⟩) (show 0 ≤ (v4 % (c 41 20)) ∧ (v4 % (c 41 20)) ≤ 5 from ⟨by first | exact q_c4fec1d75 h_10 | omega, by first | exact q_5fbbc52e7 h_10 h_3 | omega⟩) (fun y_11 hy_11 => (bk_inl ?_))))
      by_cases h_12 : y_11 ≠ 0
      · refine v_if_ne_t (t := 71) rfl rfl ⟨h_12, ⟨(Int.le_trans (by decide) hy_11.1), (Int.le_trans hy_11.2 (by decide))⟩, by decide, by decide⟩ (v_iincx rfl rfl (by decide) (fun y_13 hy_13 => (q_iload_n rfl rfl (q_iconst rfl ?_))))
        by_cases h_14 : v3 ≠ (-1)
        · refine v_ic_ne_t (t := 100) rfl rfl ⟨h_14, ⟨hv3.1, hv3.2⟩, by decide, by decide⟩ (q_iload_n rfl rfl (q_istore_n rfl (Nat.le_of_ble_eq_true rfl) (v_iinc (v := v4 + 1) rfl rfl (Nat.le_of_ble_eq_true rfl) rfl (q_goto (t := 33) rfl rfl (Wp_ls [(0, .ref 41), (1, vi a1), (2, vi y_13), (3, vi v3), (4, vi (v4 + 1))] (lsub_cons rfl (lsub_cons rfl (lsub_cons rfl (lsub_cons rfl (lsub_cons rfl lsub_nil))))) ?_)))))
          exact ih c2 y_13 v3 (v4 + 1) hI2 (fun a j hm => hF a j (fun q => q.elim (fun h => hm (Or.inl h)) (fun q => q.elim (fun h => hm (Or.inr (Or.inl h))) (fun h => hm (Or.inr (Or.inr h)))))) hy_13 hv3 ⟨by first | exact rgp_l hv4.1 (by decide) | omega, by first | (clear ha1 hv2 hv3 hv4 h_1 h_5 h_9 h_10 h_12 h_14; omega) | omega⟩ (by omega)
        · refine v_ic_ne_f (t := 100) rfl rfl (Decidable.not_not.mp h_14) (v_bip rfl (by decide) (q_iload rfl rfl (q_aload_n rfl rfl (v_gi (z := 20) (v := c 41 20) rfl rfl rfl (Nat.le_of_ble_eq_true rfl) rfl rfl (hid kn_4) ?_))))
          have h_15 : 0 ≤ (v4 / (c 41 20)) ∧ (v4 / (c 41 20)) < c 41 22 := div_lt (by omega) (by omega) (by omega)
          refine v_idiv (v := (v4 / (c 41 20))) rfl (by omega) rfl (v_imul (v := 10 * (v4 / (c 41 20))) rfl rfl (q_iload rfl rfl (q_aload_n rfl rfl (v_gi (z := 20) (v := c 41 20) rfl rfl rfl (Nat.le_of_ble_eq_true rfl) rfl rfl (hid kn_4) ?_))))
          have h_16 : 0 ≤ (v4 % (c 41 20)) ∧ (v4 % (c 41 20)) < c 41 20 := rem_bd (by omega)
          refine v_irem (v := (v4 % (c 41 20))) rfl (by omega) rfl (v_iadd (v := (v4 % (c 41 20)) + 10 * (v4 / (c 41 20))) rfl (by first | (clear ha1 hv2 hv3 hv4 h_1 h_3 h_5 h_6 h_7 h_9 h_10 h_14 h_15 h_16 h_12; omega) | omega) (q_goto (t := 101) rfl rfl (q_istore_n rfl (Nat.le_of_ble_eq_true rfl) (v_iinc (v := v4 + 1) rfl rfl (Nat.le_of_ble_eq_true rfl) rfl (q_goto (t := 33) rfl rfl (Wp_ls [(0, .ref 41), (1, vi a1), (2, vi y_13), (3, vi ((v4 % (c 41 20)) + 10 * (v4 / (c 41 20)))), (4, vi (v4 + 1))] (lsub_cons rfl (lsub_cons rfl (lsub_cons rfl (lsub_cons rfl (lsub_cons rfl lsub_nil))))) ?_))))))
          exact ih c2 y_13 ((v4 % (c 41 20)) + 10 * (v4 / (c 41 20))) (v4 + 1) hI2 (fun a j hm => hF a j (fun q => q.elim (fun h => hm (Or.inl h)) (fun q => q.elim (fun h => hm (Or.inr (Or.inl h))) (fun h => hm (Or.inr (Or.inr h)))))) hy_13 ⟨by first | exact q_37f19ee02 h_10 h_9 | (clear ha1 hv2 hv3 hv4 h_1 h_3 h_5 h_6 h_7 h_14 h_15 h_16 h_12; omega) | omega, by first | exact q_112b0dcbc h_1 h_10 h_3 h_9 | (clear ha1 hv2 hv3 hv4 h_5 h_6 h_7 h_14 h_15 h_16 h_12; omega) | omega⟩ ⟨by first | exact rgp_l hv4.1 (by decide) | omega, by first | (clear ha1 hv2 hv3 hv4 h_1 h_5 h_9 h_10 h_14 h_15 h_16 h_12; omega) | omega⟩ (by omega)
      · refine v_if_ne_f (t := 71) rfl rfl (Decidable.not_not.mp h_12) (q_goto (t := 102) rfl rfl (v_iinc (v := v4 + 1) rfl rfl (Nat.le_of_ble_eq_true rfl) rfl (q_goto (t := 33) rfl rfl (Wp_ls [(0, .ref 41), (1, vi a1), (2, vi v2), (3, vi v3), (4, vi (v4 + 1))] (lsub_cons rfl (lsub_cons rfl (lsub_cons rfl (lsub_cons rfl (lsub_cons rfl lsub_nil))))) ?_))))
        exact ih c2 v2 v3 (v4 + 1) hI2 (fun a j hm => hF a j (fun q => q.elim (fun h => hm (Or.inl h)) (fun q => q.elim (fun h => hm (Or.inr (Or.inl h))) (fun h => hm (Or.inr (Or.inr h)))))) hv2 hv3 ⟨by first | exact rgp_l hv4.1 (by decide) | omega, by omega⟩ (by omega)
set_option maxRecDepth 100000 in
set_option maxHeartbeats 4000000 in
theorem s_230 {sc : List Int32} {d P Q : Nat} {c : ME} {a1 : Int} {Z : AR → Prop} (hI : Iv 0 (-1) P Q c) (ha1 : (-2147483648) ≤ a1 ∧ a1 ≤ 2147483647) (K : ∀ (c2 : ME) (y : Int), Iv 0 (-1) P Q c2 → (∀ (a : Nat) (j : Int), ¬ ((a = 41 ∧ j = 0) ∨ a = 42 ∨ a = 59) → c2 a j = c a j) → (-2147483648) ≤ y ∧ y ≤ 2147483647 → Z (.inl (some (vi y)), Wd P Q P P c2, 0, 0)) : Wp sc (d + 9) 230 0 [(0, .ref 41), (1, vi a1)] [] (Wd P Q P P c) 0 0 Z := by
  have hP := iv_P hI
  have hQ := iv_Q hI
  refine q_aload_n rfl rfl (q_iconst rfl (v_pi (z := 0) rfl rfl rfl (Nat.le_of_ble_eq_true rfl) rfl rfl rfl (by decide) (q_aload_n rfl rfl (q_iload_n rfl rfl (q_iconst rfl (q_iconst rfl (q_call rfl rfl rfl rfl ?_)))))))
  refine q_iload_n rfl rfl (q_iload_n rfl rfl ?_)
  by_cases h_17 : a1 < 0
  · refine v_ic_lt_t (t := 14) rfl rfl ⟨ha1.1, h_17, by decide⟩ (q_iconst rfl (v_zret rfl rfl (by decide) (bk_inl (q_iconst rfl (q_iconst rfl (v_cv rfl rfl rfl rfl (Nat.le_of_ble_eq_true rfl) ⟨⟨rfl, rfl⟩, Nat.le_of_ble_eq_true rfl, rfl⟩ (Nat.le_of_ble_eq_true rfl) (Nat.le_of_ble_eq_true rfl) (q_iload_n rfl rfl ?_)))))))
    refine v_if_ne_f (t := 26) rfl rfl (by decide) (q_aload_n rfl rfl (v_gi (z := 0) (v := 0) rfl rfl rfl (Nat.le_of_ble_eq_true rfl) rfl rfl (up_e rfl) (v_if_ne_f (t := 26) rfl rfl (by decide) (q_aload_n rfl rfl (q_iload_n rfl rfl (v_pi (z := 0) rfl rfl rfl (Nat.le_of_ble_eq_true rfl) rfl rfl rfl (by decide) (q_aload_n rfl rfl ?_)))))))
    refine v_gr (t := 42) rfl rfl rfl (Nat.le_of_ble_eq_true rfl) rfl (q_iload_n rfl rfl (q_dup2 rfl ⟨rfl, rfl⟩ ?_))
    have h_18 := ir_42 hI 1
    refine v_ia (v := c 42 1) rfl rfl (by decide) (by decide) (by decide) ((up_c (nn rfl)).trans (up_c (nn rfl))) (q_iconst rfl (v_iadd (v := c 42 1 + 1) rfl rfl (v_nrm (fun y_19 hy_19 => (v_is rfl rfl (by decide) (by decide) (by decide) (q_aload_n rfl rfl (v_gi (z := 0) (v := 1) rfl rfl rfl (Nat.le_of_ble_eq_true rfl) rfl rfl ((up_c (nn rfl)).trans (up_e rfl)) (v_if_ne_t (t := 37) rfl rfl (by decide) ?_))))))))
    refine q_iconst rfl (v_zret rfl rfl (by decide) (bk_inl (v_if_ne_f (t := 22) rfl rfl (by decide) (q_iconst rfl (q_iret rfl rfl ?_)))))
    have hI_20 := iw_41_0 (v := 0) hI ⟨by decide, by decide⟩
    have hI_21 := iw_41_0 (v := 1) hI_20 ⟨by decide, by decide⟩
    have hI_22 := iw_42 (j := 1) (v := y_19) hI_21 ⟨hy_19.1, hy_19.2⟩
    exact K (up (up (up c 41 0 0) 41 0 1) 42 1 y_19) 0 hI_22 (fun a j hm => (up_b (Decidable.or_iff_not_imp_left.mpr (fun h1 h2 => hm (Or.inr (Or.inl (Decidable.not_not.mp h1)))))).trans ((up_b (Decidable.or_iff_not_imp_left.mpr (fun h1 h2 => hm (Or.inl ⟨Decidable.not_not.mp h1, h2⟩)))).trans (up_b (Decidable.or_iff_not_imp_left.mpr (fun h1 h2 => hm (Or.inl ⟨Decidable.not_not.mp h1, h2⟩)))))) ⟨by decide, by decide⟩
  · refine v_ic_lt_f (t := 14) rfl rfl ⟨by decide, (Int.not_lt.mp h_17), ha1.2⟩ (q_iload_n rfl rfl (q_iload_n rfl rfl ?_))
    by_cases h_23 : a1 > 1
    · refine v_ic_gt_t (t := 14) rfl rfl ⟨by decide, h_23, ha1.2⟩ (q_iconst rfl (v_zret rfl rfl (by decide) (bk_inl (q_iconst rfl (q_iconst rfl (v_cv rfl rfl rfl rfl (Nat.le_of_ble_eq_true rfl) ⟨⟨rfl, rfl⟩, Nat.le_of_ble_eq_true rfl, rfl⟩ (Nat.le_of_ble_eq_true rfl) (Nat.le_of_ble_eq_true rfl) (q_iload_n rfl rfl ?_)))))))
      refine v_if_ne_f (t := 26) rfl rfl (by decide) (q_aload_n rfl rfl (v_gi (z := 0) (v := 0) rfl rfl rfl (Nat.le_of_ble_eq_true rfl) rfl rfl (up_e rfl) (v_if_ne_f (t := 26) rfl rfl (by decide) (q_aload_n rfl rfl (q_iload_n rfl rfl (v_pi (z := 0) rfl rfl rfl (Nat.le_of_ble_eq_true rfl) rfl rfl rfl (by decide) (q_aload_n rfl rfl ?_)))))))
      refine v_gr (t := 42) rfl rfl rfl (Nat.le_of_ble_eq_true rfl) rfl (q_iload_n rfl rfl (q_dup2 rfl ⟨rfl, rfl⟩ ?_))
      have h_24 := ir_42 hI 1
      refine v_ia (v := c 42 1) rfl rfl (by decide) (by decide) (by decide) ((up_c (nn rfl)).trans (up_c (nn rfl))) (q_iconst rfl (v_iadd (v := c 42 1 + 1) rfl rfl (v_nrm (fun y_25 hy_25 => (v_is rfl rfl (by decide) (by decide) (by decide) (q_aload_n rfl rfl (v_gi (z := 0) (v := 1) rfl rfl rfl (Nat.le_of_ble_eq_true rfl) rfl rfl ((up_c (nn rfl)).trans (up_e rfl)) (v_if_ne_t (t := 37) rfl rfl (by decide) ?_))))))))
      refine q_iconst rfl (v_zret rfl rfl (by decide) (bk_inl (v_if_ne_f (t := 22) rfl rfl (by decide) (q_iconst rfl (q_iret rfl rfl ?_)))))
      have hI_26 := iw_41_0 (v := 0) hI ⟨by decide, by decide⟩
      have hI_27 := iw_41_0 (v := 1) hI_26 ⟨by decide, by decide⟩
      have hI_28 := iw_42 (j := 1) (v := y_25) hI_27 ⟨hy_25.1, hy_25.2⟩
      exact K (up (up (up c 41 0 0) 41 0 1) 42 1 y_25) 0 hI_28 (fun a j hm => (up_b (Decidable.or_iff_not_imp_left.mpr (fun h1 h2 => hm (Or.inr (Or.inl (Decidable.not_not.mp h1)))))).trans ((up_b (Decidable.or_iff_not_imp_left.mpr (fun h1 h2 => hm (Or.inl ⟨Decidable.not_not.mp h1, h2⟩)))).trans (up_b (Decidable.or_iff_not_imp_left.mpr (fun h1 h2 => hm (Or.inl ⟨Decidable.not_not.mp h1, h2⟩)))))) ⟨by decide, by decide⟩
    · refine v_ic_gt_f (t := 14) rfl rfl ⟨ha1.1, (Int.not_lt.mp h_23), by decide⟩ (q_iconst rfl (q_goto (t := 15) rfl rfl (v_zret rfl rfl (by decide) (bk_inl (q_iconst rfl (q_iconst rfl (v_cv rfl rfl rfl rfl (Nat.le_of_ble_eq_true rfl) ⟨⟨rfl, rfl⟩, Nat.le_of_ble_eq_true rfl, rfl⟩ (Nat.le_of_ble_eq_true rfl) (Nat.le_of_ble_eq_true rfl) ?_)))))))
      refine q_iload_n rfl rfl (v_if_ne_t (t := 26) rfl rfl (by decide) (q_aload_n rfl rfl (v_gi (z := 0) (v := 0) rfl rfl rfl (Nat.le_of_ble_eq_true rfl) rfl rfl (up_e rfl) (v_if_ne_f (t := 37) rfl rfl (by decide) (q_iconst rfl (q_goto (t := 38) rfl rfl (v_zret rfl rfl (by decide) ?_)))))))
      refine bk_inl (v_if_ne_t (t := 22) rfl rfl (by decide) (q_aload_n rfl rfl ?_))
      have hI_29 := iw_41_0 (v := 0) hI ⟨by decide, by decide⟩
      refine v_cv rfl rfl rfl rfl (Nat.le_of_ble_eq_true rfl) ⟨⟨rfl, rfl⟩, Nat.le_of_ble_eq_true rfl, rfl⟩ (Nat.le_of_ble_eq_true rfl) (Nat.le_of_ble_eq_true rfl) (s_186 hI_29 (fun c_30 hI_31 hF_32 => (bk_inl (q_iconst rfl (q_istore_n rfl (Nat.le_of_ble_eq_true rfl) (q_iconst rfl (q_istore_n rfl (Nat.le_of_ble_eq_true rfl) (q_iconst rfl (q_istore rfl (Nat.le_of_ble_eq_true rfl) ?_)))))))))
      refine Wp_ls [(0, .ref 41), (1, vi a1), (2, vi 0), (3, vi (-1)), (4, vi 0)] (lsub_cons rfl (lsub_cons rfl (lsub_cons rfl (lsub_cons rfl (lsub_cons rfl lsub_nil))))) ?_
      exact (s_230_l (sc := sc) (d := d) hI ha1 K 52) c_30 0 (-1) 0 hI_31 (fun a j hm => (hF_32 a j (fun h => hm (Or.inr (Or.inr h)))).trans (up_b (Decidable.or_iff_not_imp_left.mpr (fun h1 h2 => hm (Or.inl ⟨Decidable.not_not.mp h1, h2⟩))))) ⟨by decide, by decide⟩ ⟨by decide, by decide⟩ ⟨by decide, by decide⟩ (by omega)

set_option maxRecDepth 100000 in
set_option maxHeartbeats 4000000 in
theorem s_231_l {sc : List Int32} {e : Int} {d u P Q : Nat} {c : ME} {a1 : Int} {Z : AR → Prop} (hI : Iv u e P Q c) (ha1 : 0 ≤ a1 ∧ a1 ≤ 3) (K : ∀ (y : Int), (-2147483648) ≤ y ∧ y ≤ 2147483647 → Z (.inl (some (vi y)), Wd P Q P P c, 0, 0)) : ∀ n : Nat, (∀ (v2 : Int) (v3 : Int), 0 ≤ v2 ∧ v2 ≤ 2147483647 → 0 ≤ v3 ∧ v3 ≤ 25 → 1377 - 53 * v3 < (n : Int) → Wp sc (d + 9) 231 4 [(0, .ref 41), (1, vi a1), (2, vi v2), (3, vi v3)] [] (Wd P Q P P c) 0 0 Z) ∧ (∀ (v2 : Int) (v3 : Int) (v4 : Int) (v5 : Int), 0 ≤ v2 ∧ v2 ≤ 2147483647 → 0 ≤ v3 ∧ v3 ≤ 24 → (-2147483648) ≤ v4 ∧ v4 ≤ 2147483647 → 0 ≤ v5 ∧ v5 ≤ 24 → ((v3 < ((c 41 22) * (c 41 20)))) → 1374 - 53 * v3 - 2 * v5 < (n : Int) → Wp sc (d + 9) 231 45 [(0, .ref 41), (1, vi a1), (2, vi v2), (3, vi v3), (4, vi v4), (5, vi v5)] [] (Wd P Q P P c) 0 0 Z)
  | 0 => by exact ⟨by (intro v2 v3 hv2 hv3 hm9; have hP := iv_P hI; have hQ := iv_Q hI; exfalso; omega), by (intro v2 v3 v4 v5 hv2 hv3 hv4 hv5 hx0 hm9; have hP := iv_P hI; have hQ := iv_Q hI; exfalso; omega)⟩
  | n + 1 => by
    have hP := iv_P hI
    have hQ := iv_Q hI
    have ih := s_231_l (sc := sc) (d := d) hI ha1 K n
    refine ⟨?_, ?_⟩
    · skip
      intro v2 v3 hv2 hv3 hm9
      refine q_iload_n rfl rfl (q_aload_n rfl rfl ?_)
      have h_1 := ir_41_22 hI
      refine v_gi (z := 22) (v := c 41 22) rfl rfl rfl (Nat.le_of_ble_eq_true rfl) rfl rfl rfl (q_aload_n rfl rfl ?_)
      have h_2 := ir_41_20 hI
      refine v_gi (z := 20) (v := c 41 20) rfl rfl rfl (Nat.le_of_ble_eq_true rfl) rfl rfl rfl ?_
      have h_3 : 0 ≤ (c 41 22) * (c 41 20) ∧ (c 41 22) * (c 41 20) ≤ 6 * (c 41 22) := mul_bd (by omega) (by omega) (by omega)
      have h_4 : 0 ≤ (c 41 22) * (c 41 20) ∧ (c 41 22) * (c 41 20) ≤ 4 * (c 41 20) := mul_bd2 (by omega) (by omega) (by omega)
      refine v_imul (v := ((c 41 22) * (c 41 20))) rfl rfl ?_
      by_cases h_5 : v3 ≥ ((c 41 22) * (c 41 20))
      · refine v_ic_ge_t (t := 154) rfl rfl ⟨by omega, h_5, (Int.le_trans hv3.2 (by decide))⟩ (q_iload_n rfl rfl (q_iret rfl rfl ?_))
        exact K v2 ⟨(Int.le_trans (by decide) hv2.1), hv2.2⟩
      · refine v_ic_ge_f (t := 154) rfl rfl ⟨(Int.le_trans (by decide) hv3.1), (Int.not_le.mp h_5), by omega⟩ (q_aload_n rfl rfl (q_iload_n rfl rfl (q_aload_n rfl rfl (v_gi (z := 20) (v := c 41 20) rfl rfl rfl (Nat.le_of_ble_eq_true rfl) rfl rfl rfl ?_))))
        have h_6 : 0 ≤ (v3 / (c 41 20)) ∧ (v3 / (c 41 20)) < c 41 22 := div_lt (by omega) (by omega) (by omega)
        refine v_idiv (v := (v3 / (c 41 20))) rfl (by omega) rfl (q_iload_n rfl rfl (q_aload_n rfl rfl (v_gi (z := 20) (v := c 41 20) rfl rfl rfl (Nat.le_of_ble_eq_true rfl) rfl rfl rfl ?_)))
        have h_7 : 0 ≤ (v3 % (c 41 20)) ∧ (v3 % (c 41 20)) < c 41 20 := rem_bd (by omega)
        refine v_irem (v := (v3 % (c 41 20))) rfl (by omega) rfl (v_cv rfl rfl rfl rfl (Nat.le_of_ble_eq_true rfl) ⟨⟨rfl, rfl⟩, Nat.le_of_ble_eq_true rfl, rfl⟩ (Nat.le_of_ble_eq_true rfl) (Nat.le_of_ble_eq_true rfl) (s_229 (a1 := (v3 / (c 41 20))) (a2 := (v3 % (c 41 20))) hI (show 0 ≤ (v3 / (c 41 20)) ∧ (v3 / (c 41 20)) ≤ 3 from ⟨by first | exact q_c4fec1d75 h_6 | omega, by first | exact q_6b730c0e0 h_1 h_6 | omega⟩) (show 0 ≤ (v3 % (c 41 20)) ∧ (v3 % (c 41 20)) ≤ 5 from ⟨by first | exact q_c4fec1d75 h_7 | omega, by first | exact q_d5c4fed04 h_2 h_7 | omega⟩) (fun y_8 hy_8 => (bk_inl ?_))))
        by_cases h_9 : y_8 ≠ 0
        · refine v_if_ne_t (t := 39) rfl rfl ⟨h_9, ⟨(Int.le_trans (by decide) hy_8.1), (Int.le_trans hy_8.2 (by decide))⟩, by decide, by decide⟩ (q_iconst rfl (q_istore rfl (Nat.le_of_ble_eq_true rfl) (q_iconst rfl (q_istore rfl (Nat.le_of_ble_eq_true rfl) (Wp_ls [(0, .ref 41), (1, vi a1), (2, vi v2), (3, vi v3), (4, vi 0), (5, vi 0)] (lsub_cons rfl (lsub_cons rfl (lsub_cons rfl (lsub_cons rfl (lsub_cons rfl (lsub_cons rfl lsub_nil)))))) ?_)))))
          exact ih.2 v2 v3 0 0 hv2 ⟨hv3.1, by first | (clear ha1 hv2 hv3 h_1 h_3 h_6 h_7 h_9; omega) | omega⟩ ⟨by decide, by decide⟩ ⟨by decide, by decide⟩ (by first | exact q_d17d18138 h_5 | (clear ha1 hv2 hv3 h_1 h_2 h_3 h_4 h_6 h_7 h_9; omega) | omega) (by omega)
        · refine v_if_ne_f (t := 39) rfl rfl (Decidable.not_not.mp h_9) (q_goto (t := 148) rfl rfl (v_iinc (v := v3 + 1) rfl rfl (Nat.le_of_ble_eq_true rfl) rfl (q_goto (t := 4) rfl rfl (Wp_ls [(0, .ref 41), (1, vi a1), (2, vi v2), (3, vi (v3 + 1))] (lsub_cons rfl (lsub_cons rfl (lsub_cons rfl (lsub_cons rfl lsub_nil)))) ?_))))
          exact ih.1 v2 (v3 + 1) hv2 ⟨by first | exact rgp_l hv3.1 (by decide) | omega, by omega⟩ (by omega)
    · skip
      intro v2 v3 v4 v5 hv2 hv3 hv4 hv5 hx0 hm9
      refine q_iload rfl rfl (q_aload_n rfl rfl ?_)
      have h_10 := ir_41_22 hI
      refine v_gi (z := 22) (v := c 41 22) rfl rfl rfl (Nat.le_of_ble_eq_true rfl) rfl rfl rfl (q_aload_n rfl rfl ?_)
      have h_11 := ir_41_20 hI
      refine v_gi (z := 20) (v := c 41 20) rfl rfl rfl (Nat.le_of_ble_eq_true rfl) rfl rfl rfl ?_
      have h_12 : 0 ≤ (c 41 22) * (c 41 20) ∧ (c 41 22) * (c 41 20) ≤ 6 * (c 41 22) := mul_bd (by omega) (by omega) (by omega)
      have h_13 : 0 ≤ (c 41 22) * (c 41 20) ∧ (c 41 22) * (c 41 20) ≤ 4 * (c 41 20) := mul_bd2 (by omega) (by omega) (by omega)
      refine v_imul (v := ((c 41 22) * (c 41 20))) rfl rfl ?_
      by_cases h_14 : v5 ≥ ((c 41 22) * (c 41 20))
      · refine v_ic_ge_t (t := 135) rfl rfl ⟨by omega, h_14, (Int.le_trans hv5.2 (by decide))⟩ (q_iload rfl rfl (q_iload_n rfl rfl ?_))
        by_cases h_15 : v4 ≤ v2
        · refine v_ic_le_t (t := 146) rfl rfl ⟨hv4.1, h_15, hv2.2⟩ (q_iload_n rfl rfl (q_istore_n rfl (Nat.le_of_ble_eq_true rfl) (v_iinc (v := v3 + 1) rfl rfl (Nat.le_of_ble_eq_true rfl) rfl (q_goto (t := 4) rfl rfl (Wp_ls [(0, .ref 41), (1, vi a1), (2, vi v2), (3, vi (v3 + 1))] (lsub_cons rfl (lsub_cons rfl (lsub_cons rfl (lsub_cons rfl lsub_nil)))) ?_)))))
          exact ih.1 v2 (v3 + 1) hv2 ⟨by first | exact rgp_l hv3.1 (by decide) | omega, by first | exact rgp_h hv3.2 (by decide) | omega⟩ (by omega)
        · refine v_ic_le_f (t := 146) rfl rfl ⟨(Int.le_trans (by decide) hv2.1), (Int.not_le.mp h_15), hv4.2⟩ (q_iload rfl rfl (q_goto (t := 147) rfl rfl (q_istore_n rfl (Nat.le_of_ble_eq_true rfl) (v_iinc (v := v3 + 1) rfl rfl (Nat.le_of_ble_eq_true rfl) rfl (q_goto (t := 4) rfl rfl (Wp_ls [(0, .ref 41), (1, vi a1), (2, vi v4), (3, vi (v3 + 1))] (lsub_cons rfl (lsub_cons rfl (lsub_cons rfl (lsub_cons rfl lsub_nil)))) ?_))))))
          exact ih.1 v4 (v3 + 1) ⟨by first | exact q_263c88b99 h_15 hv2 | omega, hv4.2⟩ ⟨by first | exact rgp_l hv3.1 (by decide) | omega, by first | exact rgp_h hv3.2 (by decide) | omega⟩ (by omega)
      · refine v_ic_ge_f (t := 135) rfl rfl ⟨(Int.le_trans (by decide) hv5.1), (Int.not_le.mp h_14), by omega⟩ (q_iload rfl rfl (q_aload_n rfl rfl (q_iload rfl rfl (q_aload_n rfl rfl (v_gi (z := 20) (v := c 41 20) rfl rfl rfl (Nat.le_of_ble_eq_true rfl) rfl rfl rfl ?_)))))
        have h_16 : 0 ≤ (v5 / (c 41 20)) ∧ (v5 / (c 41 20)) < c 41 22 := div_lt (by omega) (by omega) (by omega)
        refine v_idiv (v := (v5 / (c 41 20))) rfl (by omega) rfl (q_iload rfl rfl (q_aload_n rfl rfl (v_gi (z := 20) (v := c 41 20) rfl rfl rfl (Nat.le_of_ble_eq_true rfl) rfl rfl rfl ?_)))
        have h_17 : 0 ≤ (v5 % (c 41 20)) ∧ (v5 % (c 41 20)) < c 41 20 := rem_bd (by omega)
        refine v_irem (v := (v5 % (c 41 20))) rfl (by omega) rfl (v_cv rfl rfl rfl rfl (Nat.le_of_ble_eq_true rfl) ⟨⟨rfl, rfl⟩, Nat.le_of_ble_eq_true rfl, rfl⟩ (Nat.le_of_ble_eq_true rfl) (Nat.le_of_ble_eq_true rfl) (s_229 (a1 := (v5 / (c 41 20))) (a2 := (v5 % (c 41 20))) hI (show 0 ≤ (v5 / (c 41 20)) ∧ (v5 / (c 41 20)) ≤ 3 from ⟨by first | exact q_c4fec1d75 h_16 | omega, by first | exact q_6b730c0e0 h_10 h_16 | omega⟩) (show 0 ≤ (v5 % (c 41 20)) ∧ (v5 % (c 41 20)) ≤ 5 from ⟨by first | exact q_c4fec1d75 h_17 | omega, by first | exact q_d5c4fed04 h_11 h_17 | omega⟩) (fun y_18 hy_18 => (bk_inl ?_))))
        by_cases h_19 : y_18 = 0
        · refine v_if_eq_t (t := 125) rfl rfl h_19 (q_iconst rfl (v_iadd (v := v4) rfl (by first | (clear ha1 hv2 hv3 hv4 hv5 hx0 h_10 h_11 h_12 h_13 h_14 h_16 h_17 h_19; omega) | omega) (q_istore rfl (Nat.le_of_ble_eq_true rfl) (v_iinc (v := v5 + 1) rfl rfl (Nat.le_of_ble_eq_true rfl) rfl (q_goto (t := 45) rfl rfl (Wp_ls [(0, .ref 41), (1, vi a1), (2, vi v2), (3, vi v3), (4, vi v4), (5, vi (v5 + 1))] (lsub_cons rfl (lsub_cons rfl (lsub_cons rfl (lsub_cons rfl (lsub_cons rfl (lsub_cons rfl lsub_nil)))))) ?_))))))
          exact ih.2 v2 v3 v4 (v5 + 1) hv2 hv3 hv4 ⟨by first | exact rgp_l hv5.1 (by decide) | omega, by first | (clear ha1 hv2 hv3 hv4 hv5 hx0 h_10 h_12 h_16 h_17 h_19; omega) | omega⟩ (by first | (clear ha1 hv2 hv3 hv4 hv5 h_10 h_11 h_12 h_13 h_14 h_16 h_17 h_19; omega) | omega) (by omega)
        · refine v_if_eq_f (t := 125) rfl rfl ⟨h_19, ⟨(Int.le_trans (by decide) hy_18.1), (Int.le_trans hy_18.2 (by decide))⟩, by decide, by decide⟩ (q_aload_n rfl rfl (q_iload rfl rfl (q_aload_n rfl rfl (v_gi (z := 20) (v := c 41 20) rfl rfl rfl (Nat.le_of_ble_eq_true rfl) rfl rfl rfl ?_))))
          have h_20 : 0 ≤ (v5 / (c 41 20)) ∧ (v5 / (c 41 20)) < c 41 22 := div_lt (by omega) (by omega) (by omega)
          refine v_idiv (v := (v5 / (c 41 20))) rfl (by omega) rfl (q_iload rfl rfl (q_aload_n rfl rfl (v_gi (z := 20) (v := c 41 20) rfl rfl rfl (Nat.le_of_ble_eq_true rfl) rfl rfl rfl ?_)))
          have h_21 : 0 ≤ (v5 % (c 41 20)) ∧ (v5 % (c 41 20)) < c 41 20 := rem_bd (by omega)
          refine v_irem (v := (v5 % (c 41 20))) rfl (by omega) rfl (q_iload_n rfl rfl ?_)
          have h_22 := ir_49 hI (v5 / (c 41 20))
          have h_23 := ir_59 hI ((v5 / (c 41 20)) + 30)
          have h_24 := ir_59_g hI (j := 4 * (v5 % (c 41 20)) + a1) (by first | exact q_238d50ffa h_11 h_17 ha1 | (clear hv2 hv3 hv4 hv5 hx0 h_10 h_12 h_13 h_14 h_16 h_20 h_21 h_22 h_23 h_19; omega) | omega)
          have h_25 := fal_rng (m := c 49 (v5 / (c 41 20))) (t := c 59 ((v5 / (c 41 20)) + 30)) (g := a1) (x := c 59 (4 * (v5 % (c 41 20)) + a1)) (by omega)
          refine v_cv rfl rfl rfl rfl (Nat.le_of_ble_eq_true rfl) ⟨⟨rfl, rfl⟩, Nat.le_of_ble_eq_true rfl, rfl⟩ (Nat.le_of_ble_eq_true rfl) (Nat.le_of_ble_eq_true rfl) (s_189 (v1 := c 49 (v5 / (c 41 20))) (v2 := c 59 ((v5 / (c 41 20)) + 30)) (v3 := c 59 (4 * (v5 % (c 41 20)) + a1)) (r := (fal (c 49 (v5 / (c 41 20))) (c 59 ((v5 / (c 41 20)) + 30)) a1 (c 59 (4 * (v5 % (c 41 20)) + a1)))) (a1 := (v5 / (c 41 20))) (a2 := (v5 % (c 41 20))) (a3 := a1) hI (show 0 ≤ (v5 / (c 41 20)) ∧ (v5 / (c 41 20)) ≤ 3 from ⟨by first | exact q_c4fec1d75 h_16 | (clear ha1 hv2 hv3 hv4 hv5 hx0 h_10 h_11 h_12 h_13 h_14 h_17 h_20 h_21 h_19; omega) | omega, by first | exact q_6b730c0e0 h_10 h_16 | (clear ha1 hv2 hv3 hv4 hv5 hx0 h_11 h_12 h_13 h_14 h_17 h_20 h_21 h_19; omega) | omega⟩) (show 0 ≤ (v5 % (c 41 20)) ∧ (v5 % (c 41 20)) ≤ 5 from ⟨by first | exact q_c4fec1d75 h_17 | (clear ha1 hv2 hv3 hv4 hv5 hx0 h_10 h_11 h_12 h_13 h_14 h_16 h_20 h_21 h_19; omega) | omega, by first | exact q_d5c4fed04 h_11 h_17 | (clear ha1 hv2 hv3 hv4 hv5 hx0 h_10 h_12 h_13 h_14 h_16 h_20 h_21 h_19; omega) | omega⟩) (show 0 ≤ a1 ∧ a1 ≤ 3 from ha1) (rfl) (rfl) (rfl) rfl (bk_inl (q_aload_n rfl rfl (q_iload_n rfl rfl (q_aload_n rfl rfl (v_gi (z := 20) (v := c 41 20) rfl rfl rfl (Nat.le_of_ble_eq_true rfl) rfl rfl rfl ?_))))))
          have h_26 : 0 ≤ (v3 / (c 41 20)) ∧ (v3 / (c 41 20)) < c 41 22 := div_lt (by omega) (by omega) (by omega)
          refine v_idiv (v := (v3 / (c 41 20))) rfl (by omega) rfl (q_iload_n rfl rfl (q_aload_n rfl rfl (v_gi (z := 20) (v := c 41 20) rfl rfl rfl (Nat.le_of_ble_eq_true rfl) rfl rfl rfl ?_)))
          have h_27 : 0 ≤ (v3 % (c 41 20)) ∧ (v3 % (c 41 20)) < c 41 20 := rem_bd (by omega)
          refine v_irem (v := (v3 % (c 41 20))) rfl (by omega) rfl (q_iload_n rfl rfl ?_)
          have h_28 := ir_49 hI (v3 / (c 41 20))
          have h_29 := ir_59 hI ((v3 / (c 41 20)) + 30)
          have h_30 := ir_59_g hI (j := 4 * (v3 % (c 41 20)) + a1) (by first | exact q_238d50ffa h_11 h_27 ha1 | (clear hv2 hv3 hv4 hv5 hx0 h_10 h_12 h_13 h_14 h_16 h_17 h_20 h_21 h_22 h_23 h_24 h_25 h_26 h_28 h_29 h_19; omega) | omega)
          have h_31 := fal_rng (m := c 49 (v3 / (c 41 20))) (t := c 59 ((v3 / (c 41 20)) + 30)) (g := a1) (x := c 59 (4 * (v3 % (c 41 20)) + a1)) (by omega)
          refine v_cv rfl rfl rfl rfl (Nat.le_of_ble_eq_true rfl) ⟨⟨rfl, rfl⟩, Nat.le_of_ble_eq_true rfl, rfl⟩ (Nat.le_of_ble_eq_true rfl) (Nat.le_of_ble_eq_true rfl) (s_189 (v1 := c 49 (v3 / (c 41 20))) (v2 := c 59 ((v3 / (c 41 20)) + 30)) (v3 := c 59 (4 * (v3 % (c 41 20)) + a1)) (r := (fal (c 49 (v3 / (c 41 20))) (c 59 ((v3 / (c 41 20)) + 30)) a1 (c 59 (4 * (v3 % (c 41 20)) + a1)))) (a1 := (v3 / (c 41 20))) (a2 := (v3 % (c 41 20))) (a3 := a1) hI (show 0 ≤ (v3 / (c 41 20)) ∧ (v3 / (c 41 20)) ≤ 3 from ⟨by first | exact q_c4fec1d75 h_26 | (clear ha1 hv2 hv3 hv4 hv5 hx0 h_10 h_11 h_12 h_13 h_14 h_16 h_17 h_20 h_21 h_22 h_23 h_24 h_25 h_27 h_19; omega) | omega, by first | exact q_6b730c0e0 h_10 h_26 | (clear ha1 hv2 hv3 hv4 hv5 hx0 h_11 h_12 h_13 h_14 h_16 h_17 h_20 h_21 h_22 h_23 h_24 h_25 h_27 h_19; omega) | omega⟩) (show 0 ≤ (v3 % (c 41 20)) ∧ (v3 % (c 41 20)) ≤ 5 from ⟨by first | exact q_c4fec1d75 h_27 | (clear ha1 hv2 hv3 hv4 hv5 hx0 h_10 h_11 h_12 h_13 h_14 h_16 h_17 h_20 h_21 h_22 h_23 h_24 h_25 h_26 h_19; omega) | omega, by first | exact q_d5c4fed04 h_11 h_27 | (clear ha1 hv2 hv3 hv4 hv5 hx0 h_10 h_12 h_13 h_14 h_16 h_17 h_20 h_21 h_22 h_23 h_24 h_25 h_26 h_19; omega) | omega⟩) (show 0 ≤ a1 ∧ a1 ≤ 3 from ha1) (rfl) (rfl) (rfl) rfl (bk_inl ?_))
          by_cases h_32 : (fal (c 49 (v5 / (c 41 20))) (c 59 ((v5 / (c 41 20)) + 30)) a1 (c 59 (4 * (v5 % (c 41 20)) + a1))) ≠ (fal (c 49 (v3 / (c 41 20))) (c 59 ((v3 / (c 41 20)) + 30)) a1 (c 59 (4 * (v3 % (c 41 20)) + a1)))
          · refine v_ic_ne_t (t := 125) rfl rfl ⟨h_32, ⟨by first | (clear ha1 hv2 hv3 hv4 hv5 hx0 h_10 h_11 h_12 h_13 h_14 h_16 h_17 h_20 h_21 h_22 h_23 h_24 h_26 h_27 h_28 h_29 h_30 h_31 h_19; omega) | omega, by first | (clear ha1 hv2 hv3 hv4 hv5 hx0 h_10 h_11 h_12 h_13 h_14 h_16 h_17 h_20 h_21 h_22 h_23 h_26 h_27 h_28 h_29 h_30 h_31 h_19; omega) | omega⟩, by first | (clear ha1 hv2 hv3 hv4 hv5 hx0 h_10 h_11 h_12 h_13 h_14 h_16 h_17 h_20 h_21 h_22 h_23 h_24 h_25 h_26 h_27 h_28 h_29 h_30 h_19; omega) | omega, by first | (clear ha1 hv2 hv3 hv4 hv5 hx0 h_10 h_11 h_12 h_13 h_14 h_16 h_17 h_20 h_21 h_22 h_23 h_24 h_25 h_26 h_27 h_28 h_29 h_19; omega) | omega⟩ (q_iconst rfl (v_iadd (v := v4) rfl (by first | (clear ha1 hv2 hv3 hv4 hv5 hx0 h_10 h_11 h_12 h_13 h_14 h_16 h_17 h_20 h_21 h_22 h_23 h_24 h_25 h_26 h_27 h_28 h_29 h_30 h_31 h_19 h_32; omega) | omega) (q_istore rfl (Nat.le_of_ble_eq_true rfl) (v_iinc (v := v5 + 1) rfl rfl (Nat.le_of_ble_eq_true rfl) rfl (q_goto (t := 45) rfl rfl (Wp_ls [(0, .ref 41), (1, vi a1), (2, vi v2), (3, vi v3), (4, vi v4), (5, vi (v5 + 1))] (lsub_cons rfl (lsub_cons rfl (lsub_cons rfl (lsub_cons rfl (lsub_cons rfl (lsub_cons rfl lsub_nil)))))) ?_))))))
            exact ih.2 v2 v3 v4 (v5 + 1) hv2 hv3 hv4 ⟨by first | exact rgp_l hv5.1 (by decide) | omega, by first | (clear ha1 hv2 hv3 hv4 hv5 hx0 h_10 h_12 h_16 h_17 h_20 h_21 h_22 h_23 h_24 h_25 h_26 h_27 h_28 h_29 h_30 h_31 h_19 h_32; omega) | omega⟩ (by first | (clear ha1 hv2 hv3 hv4 hv5 h_10 h_11 h_12 h_13 h_14 h_16 h_17 h_20 h_21 h_22 h_23 h_24 h_25 h_26 h_27 h_28 h_29 h_30 h_31 h_19 h_32; omega) | omega) (by omega)
          · refine v_ic_ne_f (t := 125) rfl rfl (Decidable.not_not.mp h_32) (q_iconst rfl (q_goto (t := 126) rfl rfl (v_iadd (v := v4 + 1) rfl rfl (v_nrm (fun y_33 hy_33 => (q_istore rfl (Nat.le_of_ble_eq_true rfl) (v_iinc (v := v5 + 1) rfl rfl (Nat.le_of_ble_eq_true rfl) rfl (q_goto (t := 45) rfl rfl ?_))))))))
            refine Wp_ls [(0, .ref 41), (1, vi a1), (2, vi v2), (3, vi v3), (4, vi y_33), (5, vi (v5 + 1))] (lsub_cons rfl (lsub_cons rfl (lsub_cons rfl (lsub_cons rfl (lsub_cons rfl (lsub_cons rfl lsub_nil)))))) ?_
            exact ih.2 v2 v3 y_33 (v5 + 1) hv2 hv3 hy_33 ⟨by first | exact rgp_l hv5.1 (by decide) | omega, by first | (clear ha1 hv2 hv3 hv4 hv5 hx0 h_10 h_12 h_16 h_17 h_20 h_21 h_22 h_23 h_24 h_25 h_26 h_27 h_28 h_29 h_30 h_31 h_32 h_19; omega) | omega⟩ (by first | (clear ha1 hv2 hv3 hv4 hv5 h_10 h_11 h_12 h_13 h_14 h_16 h_17 h_20 h_21 h_22 h_23 h_24 h_25 h_26 h_27 h_28 h_29 h_30 h_31 h_32 h_19; omega) | omega) (by omega)
set_option maxRecDepth 100000 in
set_option maxHeartbeats 4000000 in
theorem s_231 {sc : List Int32} {e : Int} {d u P Q : Nat} {c : ME} {a1 : Int} {Z : AR → Prop} (hI : Iv u e P Q c) (ha1 : 0 ≤ a1 ∧ a1 ≤ 3) (K : ∀ (y : Int), (-2147483648) ≤ y ∧ y ≤ 2147483647 → Z (.inl (some (vi y)), Wd P Q P P c, 0, 0)) : Wp sc (d + 9) 231 0 [(0, .ref 41), (1, vi a1)] [] (Wd P Q P P c) 0 0 Z := by
  have hP := iv_P hI
  have hQ := iv_Q hI
  refine q_iconst rfl (q_istore_n rfl (Nat.le_of_ble_eq_true rfl) (q_iconst rfl (q_istore_n rfl (Nat.le_of_ble_eq_true rfl) (Wp_ls [(0, .ref 41), (1, vi a1), (2, vi 0), (3, vi 0)] (lsub_cons rfl (lsub_cons rfl (lsub_cons rfl (lsub_cons rfl lsub_nil)))) ?_))))
  exact (s_231_l (sc := sc) (d := d) hI ha1 K 1380).1 0 0 ⟨by decide, by decide⟩ ⟨by decide, by decide⟩ (by omega)

