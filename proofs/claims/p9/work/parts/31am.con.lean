/-! ===== contracts 7 ===== -/
theorem q_75c67c730 {x0 : Int} (f0 : 0 ≤ x0 ∧ x0 ≤ 16) : (-2147483648) ≤ x0 := by omega
theorem q_8f9397160 {x0 : Int} (f0 : 0 ≤ x0 ∧ x0 ≤ 38) : 0 ≤ x0 := by omega
theorem q_e17ec74dc {x0 : Int} (f0 : 0 ≤ x0 ∧ x0 ≤ 38) : x0 ≤ 38 := by omega
theorem q_163d1c5eb {x0 : Int} (f0 : 0 ≤ x0 ∧ x0 ≤ 3) (f1 : ¬ (x0 ≠ 0)) : x0 = 0 := by omega
theorem q_8258630c3 {x0 : Int} (f0 : 0 ≤ x0 ∧ x0 ≤ 16) : x0 ≤ 2147483647 := by omega
theorem q_b0d0e4535 {x0 x1 : Int} (f0 : 0 ≤ x0 ∧ x0 ≤ 6) (f1 : ¬ (x1 > x0 - 1)) : 4 * x1 < 24 := by omega
theorem q_e3354e5e9 {x0 x1 : Int} (f0 : 0 ≤ x0 ∧ x0 ≤ 6) (f1 : ¬ (x1 > x0 - 1)) : 4 * x1 + 1 < 24 := by omega
theorem q_0a5347bcd {x0 x1 : Int} (f0 : 0 ≤ x0 ∧ x0 ≤ 6) (f1 : ¬ (x1 > x0 - 1)) : 4 * x1 + 2 < 24 := by omega
theorem q_9939b3b7f {x0 x1 : Int} (f0 : 0 ≤ x0 ∧ x0 ≤ 6) (f1 : ¬ (x1 > x0 - 1)) : 4 * x1 + 3 < 24 := by omega
theorem q_3a2e67ab0 {x0 x1 : Int} (f0 : 0 ≤ x0 ∧ x0 ≤ 6) (f1 : ¬ (x1 > x0 - 1)) : x1 ≤ 5 := by omega
theorem q_1b5e4f74b {x0 x1 : Int} (f0 : 0 ≤ x0 ∧ x0 ≤ 4) (f1 : ¬ (x1 > x0 - 1)) : x1 ≤ 3 := by omega
theorem q_e9525d7af {x0 : Int} (f0 : ¬ (x0 > 2)) : x0 ≤ 2 := by omega
theorem q_0435250f0 {x0 x1 : Int} (f0 : 0 ≤ x0 ∧ x0 ≤ 4) (f1 : ¬ (x1 > x0 - 1)) : x1 < 4 := by omega
theorem q_fb5727b6a {x0 x1 x2 x3 : Int} (f0 : 0 ≤ x0 ∧ x0 ≤ 9999) (f1 : 0 ≤ x1 ∧ x1 ≤ 9999) (f2 : 0 ≤ x2 ∧ x2 ≤ 9999) (f3 : 0 ≤ x3 ∧ x3 ≤ 9999) : (-2147483648) ≤ 9999 - x1 - x2 - x3 - x0 := by omega
theorem q_033ec8ac9 {x0 x1 x2 x3 : Int} (f0 : 0 ≤ x0 ∧ x0 ≤ 9999) (f1 : 0 ≤ x1 ∧ x1 ≤ 9999) (f2 : 0 ≤ x2 ∧ x2 ≤ 9999) (f3 : 0 ≤ x3 ∧ x3 ≤ 9999) : 9999 - x1 - x2 - x3 - x0 ≤ 2147483647 := by omega
theorem q_8754394d5 {x0 : Int} (f0 : x0 ≠ (-1)) (f1 : (-1) ≤ x0 ∧ x0 ≤ 5) : 0 ≤ x0 := by omega
theorem q_df6958c12 {x0 x1 x2 x3 : Int} (f0 : 0 ≤ x0 ∧ x0 ≤ 9999) (f1 : 0 ≤ x1 ∧ x1 ≤ 9999) (f2 : 0 ≤ x2 ∧ x2 ≤ 9999) (f3 : 0 ≤ x3 ∧ x3 ≤ 9999) : (-2147483648) ≤ x3 + x0 + x1 + x2 := by omega
theorem q_e2451768c {x0 x1 x2 x3 : Int} (f0 : 0 ≤ x0 ∧ x0 ≤ 9999) (f1 : 0 ≤ x1 ∧ x1 ≤ 9999) (f2 : 0 ≤ x2 ∧ x2 ≤ 9999) (f3 : 0 ≤ x3 ∧ x3 ≤ 9999) : x3 + x0 + x1 + x2 ≤ 2147483647 := by omega
theorem q_a0327fb45 {x0 : Int} (f0 : ¬ (x0 = (-1))) (f1 : (-1) ≤ x0 ∧ x0 ≤ 5) : 0 ≤ x0 := by omega
theorem q_e870fe981 {x0 x1 : Int} : 4 * x0 + x1 = x1 + 4 * x0 := by omega
theorem q_c4d6b60d6 {x0 : Int} (f0 : 0 ≤ x0 ∧ x0 ≤ 9999) : (-2147483648) ≤ x0 := by omega
theorem q_838dca997 {x0 : Int} (f0 : 0 ≤ x0 ∧ x0 ≤ 9999) : x0 ≤ 2147483647 := by omega
theorem q_52c13326e {x0 x1 : Int} (f0 : ¬ (x0 ≤ x1)) (f1 : 0 ≤ x1 ∧ x1 ≤ 9999) : 0 ≤ x0 := by omega
theorem q_f52da7857 {x0 : Int} (f0 : 0 ≤ x0 ∧ x0 ≤ 9999) : x0 ≤ 9999 := by omega
theorem q_eef7e887c {x0 : Int} (f0 : ¬ (x0 > 3)) : x0 ≤ 3 := by omega
set_option maxRecDepth 100000 in
set_option maxHeartbeats 4000000 in
theorem s_86 {sc : List Int32} {d P Q : Nat} {c : ME} {a1 : Int} {Z : AR → Prop} (hI : Iv 0 (-1) P Q c) (ha1 : (-2147483648) ≤ a1 ∧ a1 ≤ 2147483647) (T101 : ∀ c2 : ME, Iv 0 (-1) P Q c2 → (∀ (a : Nat) (j : Int), ¬ ((a = 0 ∧ j = 13)) → c2 a j = c a j) → ((c2 1 3 = c 1 3)) → ((a1 < 0) ∨ (a1 > c 1 3) ∨ (a1 > 150)) → Z (.inr 101, Wd P Q P P c2, 1, 6)) (K : ∀ (c2 : ME) (y : Int), Iv 0 (-1) P Q c2 → (∀ (a : Nat) (j : Int), ¬ ((a = 1 ∧ j = 1) ∨ (a = 1 ∧ j = 2) ∨ (a = 1 ∧ j = 3) ∨ (a = 1 ∧ j = 4) ∨ (a = 1 ∧ j = 5) ∨ (a = 0 ∧ j = 13) ∨ (a = 7 ∧ j = 1) ∨ (a = 7 ∧ j = 2) ∨ (a = 7 ∧ j = 3) ∨ (a = 7 ∧ j = 4) ∨ a = 8 ∨ (a = 3 ∧ j = 3) ∨ a = 4 ∨ a = 38 ∨ (a = 0 ∧ j = 11) ∨ a = (P + 10) ∨ a = (P + 11)) → c2 a j = c a j) → (-2147483648) ≤ y ∧ y ≤ 2147483647 → ((c2 1 3 = 0 ∧ a1 ≥ 0 ∧ a1 ≤ c 1 3 ∧ a1 ≤ 150)) → Z (.inl (some (vi y)), Wd P Q P P c2, 0, 0)) : Wp sc (d + 26) 86 0 [(0, .ref 0), (1, vi a1)] [] (Wd P Q P P c) 0 0 Z := by
  have hP := iv_P hI
  have hQ := iv_Q hI
  refine q_aload_n rfl rfl (q_iload_n rfl rfl (v_sip rfl (by decide) (v_cv rfl rfl rfl rfl (Nat.le_of_ble_eq_true rfl) ⟨⟨rfl, rfl⟩, Nat.le_of_ble_eq_true rfl, rfl⟩ (Nat.le_of_ble_eq_true rfl) (Nat.le_of_ble_eq_true rfl) (q_aload_n rfl rfl (q_iload_n rfl rfl (q_iconst rfl (q_iload_n rfl rfl ?_)))))))
  refine q_aload_n rfl rfl (v_gr (t := 1) rfl rfl rfl (Nat.le_of_ble_eq_true rfl) rfl ?_)
  have h_1 := ir_1_3 hI
  refine v_gi (z := 3) (v := c 1 3) rfl rfl rfl (Nat.le_of_ble_eq_true rfl) rfl rfl rfl (v_minx rfl rfl (by omega) (Nat.le_of_ble_eq_true rfl) ⟨by omega, by omega, by omega, by omega⟩ (fun y_2 hy_2 => (q_call rfl rfl rfl rfl (q_iload_n rfl rfl (q_iload_n rfl rfl ?_)))))
  by_cases h_3 : a1 < 0
  · refine v_ic_lt_t (t := 14) rfl rfl ⟨ha1.1, h_3, by decide⟩ (q_iconst rfl (v_zret rfl rfl (by decide) (bk_inl (v_cv rfl rfl rfl rfl (Nat.le_of_ble_eq_true rfl) ⟨⟨rfl, rfl⟩, Nat.le_of_ble_eq_true rfl, rfl⟩ (Nat.le_of_ble_eq_true rfl) (Nat.le_of_ble_eq_true rfl) (q_iload_n rfl rfl (v_if_ne_f (t := 25) rfl rfl (by decide) (q_aload_n rfl rfl ?_)))))))
    refine q_dup rfl rfl ?_
    have h_4 := ir_0_13 hI
    refine v_gi (z := 13) (v := c 0 13) rfl rfl rfl (Nat.le_of_ble_eq_true rfl) rfl rfl rfl (q_iconst rfl (v_iadd (v := c 0 13 + 1) rfl rfl (v_nrm (fun y_5 hy_5 => (v_pi (z := 13) rfl rfl rfl (Nat.le_of_ble_eq_true rfl) rfl rfl rfl (by decide) (v_new rfl rfl (by decide) (by omega) (Nat.le_of_ble_eq_true rfl) (by decide) rfl (bk_out rfl rfl (bk_out rfl rfl ?_))))))))
    have hI_6 := iw_0_13 (v := y_5) hI ⟨hy_5.1, hy_5.2⟩
    have h_7 : (up c 0 13 y_5) 1 3 = c 1 3 := (up_c (nn rfl))
    exact T101 _ hI_6 (fun a j hm => up_b (Decidable.or_iff_not_imp_left.mpr (fun h1 h2 => hm ⟨Decidable.not_not.mp h1, h2⟩))) (by first | exact q_94b7ed2f4 | omega) (Or.inl (by first | exact q_e97a17f6e h_3 | omega))
  · refine v_ic_lt_f (t := 14) rfl rfl ⟨by decide, (Int.not_lt.mp h_3), ha1.2⟩ (q_iload_n rfl rfl (q_iload_n rfl rfl ?_))
    by_cases h_8 : a1 > y_2
    · refine v_ic_gt_t (t := 14) rfl rfl ⟨by omega, h_8, ha1.2⟩ (q_iconst rfl (v_zret rfl rfl (by decide) (bk_inl (v_cv rfl rfl rfl rfl (Nat.le_of_ble_eq_true rfl) ⟨⟨rfl, rfl⟩, Nat.le_of_ble_eq_true rfl, rfl⟩ (Nat.le_of_ble_eq_true rfl) (Nat.le_of_ble_eq_true rfl) (q_iload_n rfl rfl (v_if_ne_f (t := 25) rfl rfl (by decide) (q_aload_n rfl rfl ?_)))))))
      refine q_dup rfl rfl ?_
      have h_9 := ir_0_13 hI
      refine v_gi (z := 13) (v := c 0 13) rfl rfl rfl (Nat.le_of_ble_eq_true rfl) rfl rfl rfl (q_iconst rfl (v_iadd (v := c 0 13 + 1) rfl rfl (v_nrm (fun y_10 hy_10 => (v_pi (z := 13) rfl rfl rfl (Nat.le_of_ble_eq_true rfl) rfl rfl rfl (by decide) (v_new rfl rfl (by decide) (by omega) (Nat.le_of_ble_eq_true rfl) (by decide) rfl (bk_out rfl rfl (bk_out rfl rfl ?_))))))))
      have hI_11 := iw_0_13 (v := y_10) hI ⟨hy_10.1, hy_10.2⟩
      have h_12 : (up c 0 13 y_10) 1 3 = c 1 3 := (up_c (nn rfl))
      exact T101 _ hI_11 (fun a j hm => up_b (Decidable.or_iff_not_imp_left.mpr (fun h1 h2 => hm ⟨Decidable.not_not.mp h1, h2⟩))) (by first | exact q_94b7ed2f4 | omega) (by omega)
    · refine v_ic_gt_f (t := 14) rfl rfl ⟨ha1.1, (Int.not_lt.mp h_8), by omega⟩ (q_iconst rfl (q_goto (t := 15) rfl rfl (v_zret rfl rfl (by decide) (bk_inl (v_cv rfl rfl rfl rfl (Nat.le_of_ble_eq_true rfl) ⟨⟨rfl, rfl⟩, Nat.le_of_ble_eq_true rfl, rfl⟩ (Nat.le_of_ble_eq_true rfl) (Nat.le_of_ble_eq_true rfl) (q_iload_n rfl rfl (v_if_ne_t (t := 25) rfl rfl (by decide) ?_)))))))
      refine q_vret rfl rfl (bk_inl (q_aload_n rfl rfl (v_gr (t := 1) rfl rfl rfl (Nat.le_of_ble_eq_true rfl) rfl (q_iload_n rfl rfl (v_cv rfl rfl rfl rfl (Nat.le_of_ble_eq_true rfl) ⟨⟨rfl, rfl⟩, Nat.le_of_ble_eq_true rfl, rfl⟩ (Nat.le_of_ble_eq_true rfl) (Nat.le_of_ble_eq_true rfl) (s_74 (a1 := a1) hI (show 0 ≤ a1 ∧ a1 ≤ 600 from ⟨by first | exact q_720657ba9 h_3 | omega, by omega⟩) (fun c_13 hI_14 hF_15 h_16 => (bk_inl ?_))))))))
      have h_17 := ir_1_3 hI_14
      refine q_vret rfl rfl (bk_inl (q_aload_n rfl rfl (v_gr (t := 3) rfl rfl rfl (Nat.le_of_ble_eq_true rfl) rfl (v_cv rfl rfl rfl rfl (Nat.le_of_ble_eq_true rfl) ⟨⟨rfl, rfl⟩, Nat.le_of_ble_eq_true rfl, rfl⟩ (Nat.le_of_ble_eq_true rfl) (Nat.le_of_ble_eq_true rfl) (q_aload_n rfl rfl ?_)))))
      have h_18 := ir_3_3 hI
      have kn_19 : Hid (c_13 3 3 = c 3 3) := hF_15 3 3 (fun q => q.elim (fun h => absurd h.1 (nn rfl)) (fun q => q.elim (fun h => absurd h.1 (nn rfl)) (fun q => q.elim (fun h => absurd h.1 (nn rfl)) (fun q => q.elim (fun h => absurd h.1 (nn rfl)) (fun h => absurd h.1 (nn rfl))))))
      refine v_gi (z := 3) (v := c 3 3) rfl rfl rfl (Nat.le_of_ble_eq_true rfl) rfl rfl (hid kn_19) (v_bip rfl (by decide) ?_)
      by_cases h_20 : c 3 3 < 16
      · refine v_ic_lt_t (t := 13) rfl rfl ⟨by first | exact q_75c67c730 h_18 | omega, h_20, by decide⟩ (q_iconst rfl (v_zret rfl rfl (by decide) (bk_inl (v_if_eq_t (t := 21) rfl rfl (by decide) (q_aload_n rfl rfl (v_gr (t := 7) rfl rfl rfl (Nat.le_of_ble_eq_true rfl) rfl (q_aload_n rfl rfl ?_)))))))
        refine v_gr (t := 1) rfl rfl rfl (Nat.le_of_ble_eq_true rfl) rfl (q_aload_n rfl rfl (v_gr (t := P) rfl rfl rfl (Nat.le_of_ble_eq_true rfl) rfl (v_cv rfl rfl rfl rfl (Nat.le_of_ble_eq_true rfl) ⟨⟨rfl, rfl⟩, Nat.le_of_ble_eq_true rfl, rfl⟩ (Nat.le_of_ble_eq_true rfl) (Nat.le_of_ble_eq_true rfl) (s_42 hI_14 (fun c_21 hI_22 hF_23 => (bk_inl (q_aload_n rfl rfl (v_gr (t := 1) rfl rfl rfl (Nat.le_of_ble_eq_true rfl) rfl (v_cv rfl rfl rfl rfl (Nat.le_of_ble_eq_true rfl) ⟨⟨rfl, rfl⟩, Nat.le_of_ble_eq_true rfl, rfl⟩ (Nat.le_of_ble_eq_true rfl) (Nat.le_of_ble_eq_true rfl) ?_)))))))))
        refine q_aload_n rfl rfl ?_
        have h_24 := ir_1_4 hI_22
        refine v_gi (z := 4) (v := c_21 1 4) rfl rfl rfl (Nat.le_of_ble_eq_true rfl) rfl rfl rfl ?_
        by_cases h_25 : c_21 1 4 ≠ 0
        · refine v_if_ne_t (t := 11) rfl rfl ⟨h_25, ⟨(Int.le_trans (by decide) h_24.1), (Int.le_trans h_24.2 (by decide))⟩, by decide, by decide⟩ (q_iconst rfl (v_zret rfl rfl (by decide) (bk_inl (v_if_eq_t (t := 88) rfl rfl (by decide) (q_aload_n rfl rfl (q_aload_n rfl rfl (v_gr (t := 7) rfl rfl rfl (Nat.le_of_ble_eq_true rfl) rfl ?_)))))))
          have h_26 := ir_7_3 hI_22
          refine v_gi (z := 3) (v := c_21 7 3) rfl rfl rfl (Nat.le_of_ble_eq_true rfl) rfl rfl rfl (v_cv rfl rfl rfl rfl (Nat.le_of_ble_eq_true rfl) ⟨⟨rfl, rfl⟩, Nat.le_of_ble_eq_true rfl, rfl⟩ (Nat.le_of_ble_eq_true rfl) (Nat.le_of_ble_eq_true rfl) (q_aload_n rfl rfl (v_gr (t := 1) rfl rfl rfl (Nat.le_of_ble_eq_true rfl) rfl (v_cv rfl rfl rfl rfl (Nat.le_of_ble_eq_true rfl) ⟨⟨rfl, rfl⟩, Nat.le_of_ble_eq_true rfl, rfl⟩ (Nat.le_of_ble_eq_true rfl) (Nat.le_of_ble_eq_true rfl) (q_aload_n rfl rfl (v_gi (z := 4) (v := c_21 1 4) rfl rfl rfl (Nat.le_of_ble_eq_true rfl) rfl rfl rfl (v_if_ne_t (t := 11) rfl rfl ⟨by first | exact q_646bc4652 h_24 h_25 | omega, ⟨(Int.le_trans (by decide) h_24.1), (Int.le_trans h_24.2 (by decide))⟩, by decide, by decide⟩ ?_)))))))
          refine q_iconst rfl (v_zret rfl rfl (by decide) (bk_inl (v_if_eq_t (t := 14) rfl rfl (by decide) (q_aload_n rfl rfl (v_gr (t := 1) rfl rfl rfl (Nat.le_of_ble_eq_true rfl) rfl (v_gi (z := 4) (v := c_21 1 4) rfl rfl rfl (Nat.le_of_ble_eq_true rfl) rfl rfl rfl (v_bip rfl (by decide) ?_)))))))
          refine v_isub (v := c_21 1 4 - 10) rfl rfl (q_iret rfl rfl (bk_inl (q_iret rfl rfl ?_)))
          have kn_27 : Hid (c_21 1 3 = c_13 1 3) := hF_23 1 3 (fun q => q.elim (fun h => absurd h.2 (ni rfl)) (fun q => q.elim (fun h => absurd h.2 (ni rfl)) (fun q => q.elim (fun h => absurd h.2 (ni rfl)) (fun q => q.elim (fun h => absurd h.1 (nn rfl)) (fun q => q.elim (fun h => absurd h.1 (nn rfl)) (fun q => q.elim (fun h => absurd h.1 (nn rfl)) (fun q => q.elim (fun h => absurd h.1 (nn rfl)) (fun h => absurd h (nn rfl)))))))))
          have h_28 : c_21 1 3 = c_13 1 3 := (hid kn_27)
          exact K c_21 (c_21 1 4 - 10) hI_22 (fun a j hm => (hF_23 a j (fun q => q.elim (fun h => hm (Or.inr (Or.inl h))) (fun q => q.elim (fun h => hm (Or.inr (Or.inr (Or.inr (Or.inl h))))) (fun q => q.elim (fun h => hm (Or.inr (Or.inr (Or.inr (Or.inr (Or.inl h)))))) (fun q => q.elim (fun h => hm (Or.inr (Or.inr (Or.inr (Or.inr (Or.inr (Or.inr (Or.inl h)))))))) (fun q => q.elim (fun h => hm (Or.inr (Or.inr (Or.inr (Or.inr (Or.inr (Or.inr (Or.inr (Or.inl h))))))))) (fun q => q.elim (fun h => hm (Or.inr (Or.inr (Or.inr (Or.inr (Or.inr (Or.inr (Or.inr (Or.inr (Or.inl h)))))))))) (fun q => q.elim (fun h => hm (Or.inr (Or.inr (Or.inr (Or.inr (Or.inr (Or.inr (Or.inr (Or.inr (Or.inr (Or.inl h))))))))))) (fun h => hm (Or.inr (Or.inr (Or.inr (Or.inr (Or.inr (Or.inr (Or.inr (Or.inr (Or.inr (Or.inr (Or.inl h)))))))))))))))))))).trans (hF_15 a j (fun q => q.elim (fun h => hm (Or.inl h)) (fun q => q.elim (fun h => hm (Or.inr (Or.inl h))) (fun q => q.elim (fun h => hm (Or.inr (Or.inr (Or.inl h)))) (fun q => q.elim (fun h => hm (Or.inr (Or.inr (Or.inr (Or.inl h))))) (fun h => hm (Or.inr (Or.inr (Or.inr (Or.inr (Or.inl h)))))))))))) ⟨by first | exact rgm_l h_24.1 (by decide) | omega, by first | exact rgm_h h_24.2 (by decide) | omega⟩ ⟨by first | (clear ha1 h_1 h_3 h_8 h_18 h_20 h_24 h_26 h_25; omega) | omega, by first | exact q_720657ba9 h_3 | (clear ha1 h_1 h_8 h_17 h_16 h_18 h_20 h_24 h_26 h_25; omega) | omega, by first | (clear ha1 h_1 h_3 h_17 h_16 h_18 h_20 h_24 h_26 h_25; omega) | omega, by first | (clear ha1 h_1 h_3 h_17 h_16 h_18 h_20 h_24 h_26 h_25; omega) | omega⟩
        · refine v_if_ne_f (t := 11) rfl rfl (Decidable.not_not.mp h_25) (q_iconst rfl (q_goto (t := 12) rfl rfl (v_zret rfl rfl (by decide) (bk_inl (v_if_eq_f (t := 88) rfl rfl (by decide) (q_aload_n rfl rfl (v_gr (t := 3) rfl rfl rfl (Nat.le_of_ble_eq_true rfl) rfl ?_)))))))
          refine q_aload_n rfl rfl (v_gr (t := 37) rfl rfl rfl (Nat.le_of_ble_eq_true rfl) rfl ?_)
          have kn_29 : Hid (c_21 3 3 = c 3 3) := (hF_23 3 3 (fun q => q.elim (fun h => absurd h.1 (nn rfl)) (fun q => q.elim (fun h => absurd h.1 (nn rfl)) (fun q => q.elim (fun h => absurd h.1 (nn rfl)) (fun q => q.elim (fun h => absurd h.1 (nn rfl)) (fun q => q.elim (fun h => absurd h.1 (nn rfl)) (fun q => q.elim (fun h => absurd h.1 (nn rfl)) (fun q => q.elim (fun h => absurd h.1 (nn rfl)) (fun h => absurd h (nn rfl)))))))))).trans (hid kn_19)
          have h_30 : c_21 3 3 = c 3 3 := (hid kn_29)
          refine v_cv rfl rfl rfl rfl (Nat.le_of_ble_eq_true rfl) ⟨⟨rfl, rfl⟩, Nat.le_of_ble_eq_true rfl, rfl⟩ (Nat.le_of_ble_eq_true rfl) (Nat.le_of_ble_eq_true rfl) (s_24 hI_22 (fun c_31 hI_32 hF_33 h_34 => (bk_inl ?_)))
          have h_35 := ir_3_3 hI_32
          refine q_aload_n rfl rfl (v_gr (t := 7) rfl rfl rfl (Nat.le_of_ble_eq_true rfl) rfl (q_aload_n rfl rfl (v_gr (t := 37) rfl rfl rfl (Nat.le_of_ble_eq_true rfl) rfl (q_iconst rfl (q_aload_n rfl rfl (v_gr (t := 7) rfl rfl rfl (Nat.le_of_ble_eq_true rfl) rfl ?_))))))
          have h_36 := ir_7_2 hI_22
          have kn_37 : Hid (c_31 7 2 = c_21 7 2) := hF_33 7 2 (fun q => q.elim (fun h => absurd h.1 (nn rfl)) (fun h => absurd h (nn rfl)))
          refine v_gi (z := 2) (v := c_21 7 2) rfl rfl rfl (Nat.le_of_ble_eq_true rfl) rfl rfl (hid kn_37) (q_iconst rfl ?_)
          have h_38 := ir_7_1 hI_22
          have kn_39 : Hid (c_31 7 1 = c_21 7 1) := hF_33 7 1 (fun q => q.elim (fun h => absurd h.1 (nn rfl)) (fun h => absurd h (nn rfl)))
          have h_40 : c_31 7 1 = c_21 7 1 := (hid kn_39)
          refine v_cv rfl rfl rfl rfl (Nat.le_of_ble_eq_true rfl) ⟨⟨rfl, rfl⟩, Nat.le_of_ble_eq_true rfl, rfl⟩ (Nat.le_of_ble_eq_true rfl) (Nat.le_of_ble_eq_true rfl) (r_63 (a2 := 0) (a3 := c_21 7 2) (a4 := 0) hI_32 (show 0 ≤ 0 ∧ 0 ≤ 38 from ⟨by decide, by decide⟩) (show 0 ≤ c_21 7 2 ∧ c_21 7 2 ≤ 38 from ⟨by first | exact q_8f9397160 h_36 | (clear ha1 h_1 h_3 h_8 h_17 h_16 h_18 h_20 h_24 h_25 h_35 h_34; omega) | omega, by first | exact q_e17ec74dc h_36 | (clear ha1 h_1 h_3 h_8 h_17 h_16 h_18 h_20 h_24 h_25 h_35 h_34; omega) | omega⟩) (show 0 ≤ 0 ∧ 0 ≤ 7 from ⟨by decide, by decide⟩) (fun c_41 hI_42 hF_43 h_44 => (bk_inl ?_)))
          have h_45 := ir_7_1 hI_42
          refine q_aload_n rfl rfl (q_aload_n rfl rfl (v_gr (t := 7) rfl rfl rfl (Nat.le_of_ble_eq_true rfl) rfl ?_))
          have h_46 := ir_7_4 hI_42
          refine v_gi (z := 4) (v := c_41 7 4) rfl rfl rfl (Nat.le_of_ble_eq_true rfl) rfl rfl rfl (v_pi (z := 11) rfl rfl rfl (Nat.le_of_ble_eq_true rfl) rfl rfl rfl (by decide) (q_aload_n rfl rfl (q_aload_n rfl rfl (v_gr (t := 7) rfl rfl rfl (Nat.le_of_ble_eq_true rfl) rfl ?_))))
          have h_47 := ir_7_3 hI_42
          refine v_gi (z := 3) (v := c_41 7 3) rfl rfl rfl (Nat.le_of_ble_eq_true rfl) rfl rfl (up_c (nn rfl)) (v_cv rfl rfl rfl rfl (Nat.le_of_ble_eq_true rfl) ⟨⟨rfl, rfl⟩, Nat.le_of_ble_eq_true rfl, rfl⟩ (Nat.le_of_ble_eq_true rfl) (Nat.le_of_ble_eq_true rfl) (q_aload_n rfl rfl (v_gr (t := 1) rfl rfl rfl (Nat.le_of_ble_eq_true rfl) rfl (v_cv rfl rfl rfl rfl (Nat.le_of_ble_eq_true rfl) ⟨⟨rfl, rfl⟩, Nat.le_of_ble_eq_true rfl, rfl⟩ (Nat.le_of_ble_eq_true rfl) (Nat.le_of_ble_eq_true rfl) (q_aload_n rfl rfl ?_)))))
          have kn_48 : Hid (c_31 1 4 = c_21 1 4) := hF_33 1 4 (fun q => q.elim (fun h => absurd h.1 (nn rfl)) (fun h => absurd h (nn rfl)))
          have kn_49 : Hid (c_41 1 4 = c_21 1 4) := (hF_43 1 4 (fun q => q.elim (fun h => absurd h.1 (nn rfl)) (fun q => q.elim (fun h => absurd h.1 (nn rfl)) (fun q => q.elim (fun h => absurd h.1 (nn rfl)) (fun q => q.elim (fun h => absurd h (nn rfl)) (fun q => q.elim (fun h => absurd h (pn hP rfl rfl)) (fun h => absurd h (pn hP rfl rfl)))))))).trans (hid kn_48)
          refine v_gi (z := 4) (v := c_21 1 4) rfl rfl rfl (Nat.le_of_ble_eq_true rfl) rfl rfl ((up_c (nn rfl)).trans (hid kn_49)) (v_if_ne_f (t := 11) rfl rfl (by first | exact q_163d1c5eb h_24 h_25 | (clear ha1 h_1 h_3 h_8 h_17 h_16 h_18 h_20 h_35 h_36 h_38 h_45 h_44 h_46 h_47 h_34; omega) | omega) (q_iconst rfl (q_goto (t := 12) rfl rfl (v_zret rfl rfl (by decide) (bk_inl (v_if_eq_f (t := 14) rfl rfl (by decide) (q_iload_n rfl rfl ?_)))))))
          refine q_goto (t := 24) rfl rfl (q_iret rfl rfl (bk_inl (q_iret rfl rfl ?_)))
          have hI_50 := iw_0_11 (v := c_41 7 4) hI_42 ⟨h_46.1, h_46.2⟩
          have kn_51 : Hid (c_21 1 3 = c_13 1 3) := hF_23 1 3 (fun q => q.elim (fun h => absurd h.2 (ni rfl)) (fun q => q.elim (fun h => absurd h.2 (ni rfl)) (fun q => q.elim (fun h => absurd h.2 (ni rfl)) (fun q => q.elim (fun h => absurd h.1 (nn rfl)) (fun q => q.elim (fun h => absurd h.1 (nn rfl)) (fun q => q.elim (fun h => absurd h.1 (nn rfl)) (fun q => q.elim (fun h => absurd h.1 (nn rfl)) (fun h => absurd h (nn rfl)))))))))
          have kn_52 : Hid (c_31 1 3 = c_13 1 3) := (hF_33 1 3 (fun q => q.elim (fun h => absurd h.1 (nn rfl)) (fun h => absurd h (nn rfl)))).trans (hid kn_51)
          have kn_53 : Hid (c_41 1 3 = c_13 1 3) := (hF_43 1 3 (fun q => q.elim (fun h => absurd h.1 (nn rfl)) (fun q => q.elim (fun h => absurd h.1 (nn rfl)) (fun q => q.elim (fun h => absurd h.1 (nn rfl)) (fun q => q.elim (fun h => absurd h (nn rfl)) (fun q => q.elim (fun h => absurd h (pn hP rfl rfl)) (fun h => absurd h (pn hP rfl rfl)))))))).trans (hid kn_52)
          have h_54 : (up c_41 0 11 (c_41 7 4)) 1 3 = c_13 1 3 := ((up_c (nn rfl)).trans (hid kn_53))
          exact K (up c_41 0 11 (c_41 7 4)) (c_41 7 3) hI_50 (fun a j hm => (up_b (Decidable.or_iff_not_imp_left.mpr (fun h1 h2 => hm (Or.inr (Or.inr (Or.inr (Or.inr (Or.inr (Or.inr (Or.inr (Or.inr (Or.inr (Or.inr (Or.inr (Or.inr (Or.inr (Or.inr (Or.inl ⟨Decidable.not_not.mp h1, h2⟩)))))))))))))))))).trans ((hF_43 a j (fun q => q.elim (fun h => hm (Or.inr (Or.inr (Or.inr (Or.inr (Or.inr (Or.inr (Or.inl h)))))))) (fun q => q.elim (fun h => hm (Or.inr (Or.inr (Or.inr (Or.inr (Or.inr (Or.inr (Or.inr (Or.inr (Or.inl h)))))))))) (fun q => q.elim (fun h => hm (Or.inr (Or.inr (Or.inr (Or.inr (Or.inr (Or.inr (Or.inr (Or.inr (Or.inr (Or.inl h))))))))))) (fun q => q.elim (fun h => hm (Or.inr (Or.inr (Or.inr (Or.inr (Or.inr (Or.inr (Or.inr (Or.inr (Or.inr (Or.inr (Or.inr (Or.inr (Or.inr (Or.inl h))))))))))))))) (fun q => q.elim (fun h => hm (Or.inr (Or.inr (Or.inr (Or.inr (Or.inr (Or.inr (Or.inr (Or.inr (Or.inr (Or.inr (Or.inr (Or.inr (Or.inr (Or.inr (Or.inr (Or.inl h))))))))))))))))) (fun h => hm (Or.inr (Or.inr (Or.inr (Or.inr (Or.inr (Or.inr (Or.inr (Or.inr (Or.inr (Or.inr (Or.inr (Or.inr (Or.inr (Or.inr (Or.inr (Or.inr h))))))))))))))))))))))).trans ((hF_33 a j (fun q => q.elim (fun h => hm (Or.inr (Or.inr (Or.inr (Or.inr (Or.inr (Or.inr (Or.inr (Or.inr (Or.inr (Or.inr (Or.inr (Or.inl h))))))))))))) (fun h => hm (Or.inr (Or.inr (Or.inr (Or.inr (Or.inr (Or.inr (Or.inr (Or.inr (Or.inr (Or.inr (Or.inr (Or.inr (Or.inl h)))))))))))))))).trans ((hF_23 a j (fun q => q.elim (fun h => hm (Or.inr (Or.inl h))) (fun q => q.elim (fun h => hm (Or.inr (Or.inr (Or.inr (Or.inl h))))) (fun q => q.elim (fun h => hm (Or.inr (Or.inr (Or.inr (Or.inr (Or.inl h)))))) (fun q => q.elim (fun h => hm (Or.inr (Or.inr (Or.inr (Or.inr (Or.inr (Or.inr (Or.inl h)))))))) (fun q => q.elim (fun h => hm (Or.inr (Or.inr (Or.inr (Or.inr (Or.inr (Or.inr (Or.inr (Or.inl h))))))))) (fun q => q.elim (fun h => hm (Or.inr (Or.inr (Or.inr (Or.inr (Or.inr (Or.inr (Or.inr (Or.inr (Or.inl h)))))))))) (fun q => q.elim (fun h => hm (Or.inr (Or.inr (Or.inr (Or.inr (Or.inr (Or.inr (Or.inr (Or.inr (Or.inr (Or.inl h))))))))))) (fun h => hm (Or.inr (Or.inr (Or.inr (Or.inr (Or.inr (Or.inr (Or.inr (Or.inr (Or.inr (Or.inr (Or.inl h)))))))))))))))))))).trans (hF_15 a j (fun q => q.elim (fun h => hm (Or.inl h)) (fun q => q.elim (fun h => hm (Or.inr (Or.inl h))) (fun q => q.elim (fun h => hm (Or.inr (Or.inr (Or.inl h)))) (fun q => q.elim (fun h => hm (Or.inr (Or.inr (Or.inr (Or.inl h))))) (fun h => hm (Or.inr (Or.inr (Or.inr (Or.inr (Or.inl h))))))))))))))) h_47 ⟨by first | (clear ha1 h_1 h_3 h_8 h_18 h_20 h_24 h_25 h_35 h_36 h_38 h_45 h_44 h_46 h_47 h_34; omega) | omega, by first | exact q_720657ba9 h_3 | (clear ha1 h_1 h_8 h_17 h_16 h_18 h_20 h_24 h_25 h_35 h_36 h_38 h_45 h_44 h_46 h_47 h_34; omega) | omega, by first | (clear ha1 h_1 h_3 h_17 h_16 h_18 h_20 h_24 h_25 h_35 h_36 h_38 h_45 h_44 h_46 h_47 h_34; omega) | omega, by first | (clear ha1 h_1 h_3 h_17 h_16 h_18 h_20 h_24 h_25 h_35 h_36 h_38 h_45 h_44 h_46 h_47 h_34; omega) | omega⟩
      · refine v_ic_lt_f (t := 13) rfl rfl ⟨by decide, (Int.not_lt.mp h_20), by first | exact q_8258630c3 h_18 | omega⟩ (q_iconst rfl (q_goto (t := 14) rfl rfl (v_zret rfl rfl (by decide) (bk_inl (v_if_eq_f (t := 21) rfl rfl (by decide) (v_bip rfl (by decide) (q_iret rfl rfl ?_)))))))
        exact K c_13 (-20) hI_14 (fun a j hm => hF_15 a j (fun q => q.elim (fun h => hm (Or.inl h)) (fun q => q.elim (fun h => hm (Or.inr (Or.inl h))) (fun q => q.elim (fun h => hm (Or.inr (Or.inr (Or.inl h)))) (fun q => q.elim (fun h => hm (Or.inr (Or.inr (Or.inr (Or.inl h))))) (fun h => hm (Or.inr (Or.inr (Or.inr (Or.inr (Or.inl h))))))))))) ⟨by decide, by decide⟩ ⟨by omega, by first | exact q_720657ba9 h_3 | omega, by omega, by omega⟩

set_option maxRecDepth 100000 in
set_option maxHeartbeats 4000000 in
theorem s_87 {sc : List Int32} {e : Int} {d u P Q : Nat} {c : ME} {a1 : Int} {Z : AR → Prop} (hI : Iv u e P Q c) (ha1 : (-2147483648) ≤ a1 ∧ a1 ≤ 2147483647) (T101 : ∀ c2 : ME, Iv u e P Q c2 → (∀ (a : Nat) (j : Int), ¬ ((a = 0 ∧ j = 13)) → c2 a j = c a j) → ((c2 1 3 = c 1 3)) → ((a1 < 0) ∨ (a1 > c 1 3) ∨ (a1 > 60)) → Z (.inr 101, Wd P Q P P c2, 1, 6)) (K : ∀ (c2 : ME) (y : Int), Iv u e P Q c2 → (∀ (a : Nat) (j : Int), ¬ ((a = 1 ∧ j = 1) ∨ (a = 1 ∧ j = 2) ∨ (a = 1 ∧ j = 3) ∨ (a = 1 ∧ j = 4) ∨ (a = 1 ∧ j = 5) ∨ (a = 0 ∧ j = 13) ∨ (a = P ∧ j = 4) ∨ a = (P + 4) ∨ a = (P + 5)) → c2 a j = c a j) → (-2147483648) ≤ y ∧ y ≤ 2147483647 → ((c2 1 3 = 0 ∧ a1 ≥ 0 ∧ a1 ≤ c 1 3 ∧ a1 ≤ 60)) → Z (.inl (some (vi y)), Wd P Q P P c2, 0, 0)) : Wp sc (d + 11) 87 0 [(0, .ref 0), (1, vi a1)] [] (Wd P Q P P c) 0 0 Z := by
  have hP := iv_P hI
  have hQ := iv_Q hI
  refine q_aload_n rfl rfl (q_iload_n rfl rfl (v_bip rfl (by decide) (v_cv rfl rfl rfl rfl (Nat.le_of_ble_eq_true rfl) ⟨⟨rfl, rfl⟩, Nat.le_of_ble_eq_true rfl, rfl⟩ (Nat.le_of_ble_eq_true rfl) (Nat.le_of_ble_eq_true rfl) (q_aload_n rfl rfl (q_iload_n rfl rfl (q_iconst rfl (q_iload_n rfl rfl ?_)))))))
  refine q_aload_n rfl rfl (v_gr (t := 1) rfl rfl rfl (Nat.le_of_ble_eq_true rfl) rfl ?_)
  have h_1 := ir_1_3 hI
  refine v_gi (z := 3) (v := c 1 3) rfl rfl rfl (Nat.le_of_ble_eq_true rfl) rfl rfl rfl (v_minx rfl rfl (by omega) (Nat.le_of_ble_eq_true rfl) ⟨by omega, by omega, by omega, by omega⟩ (fun y_2 hy_2 => (q_call rfl rfl rfl rfl (q_iload_n rfl rfl (q_iload_n rfl rfl ?_)))))
  by_cases h_3 : a1 < 0
  · refine v_ic_lt_t (t := 14) rfl rfl ⟨ha1.1, h_3, by decide⟩ (q_iconst rfl (v_zret rfl rfl (by decide) (bk_inl (v_cv rfl rfl rfl rfl (Nat.le_of_ble_eq_true rfl) ⟨⟨rfl, rfl⟩, Nat.le_of_ble_eq_true rfl, rfl⟩ (Nat.le_of_ble_eq_true rfl) (Nat.le_of_ble_eq_true rfl) (q_iload_n rfl rfl (v_if_ne_f (t := 25) rfl rfl (by decide) (q_aload_n rfl rfl ?_)))))))
    refine q_dup rfl rfl ?_
    have h_4 := ir_0_13 hI
    refine v_gi (z := 13) (v := c 0 13) rfl rfl rfl (Nat.le_of_ble_eq_true rfl) rfl rfl rfl (q_iconst rfl (v_iadd (v := c 0 13 + 1) rfl rfl (v_nrm (fun y_5 hy_5 => (v_pi (z := 13) rfl rfl rfl (Nat.le_of_ble_eq_true rfl) rfl rfl rfl (by decide) (v_new rfl rfl (by decide) (by omega) (Nat.le_of_ble_eq_true rfl) (by decide) rfl (bk_out rfl rfl (bk_out rfl rfl ?_))))))))
    have hI_6 := iw_0_13 (v := y_5) hI ⟨hy_5.1, hy_5.2⟩
    have h_7 : (up c 0 13 y_5) 1 3 = c 1 3 := (up_c (nn rfl))
    exact T101 _ hI_6 (fun a j hm => up_b (Decidable.or_iff_not_imp_left.mpr (fun h1 h2 => hm ⟨Decidable.not_not.mp h1, h2⟩))) (by first | exact q_94b7ed2f4 | omega) (Or.inl (by first | exact q_e97a17f6e h_3 | omega))
  · refine v_ic_lt_f (t := 14) rfl rfl ⟨by decide, (Int.not_lt.mp h_3), ha1.2⟩ (q_iload_n rfl rfl (q_iload_n rfl rfl ?_))
    by_cases h_8 : a1 > y_2
    · refine v_ic_gt_t (t := 14) rfl rfl ⟨by omega, h_8, ha1.2⟩ (q_iconst rfl (v_zret rfl rfl (by decide) (bk_inl (v_cv rfl rfl rfl rfl (Nat.le_of_ble_eq_true rfl) ⟨⟨rfl, rfl⟩, Nat.le_of_ble_eq_true rfl, rfl⟩ (Nat.le_of_ble_eq_true rfl) (Nat.le_of_ble_eq_true rfl) (q_iload_n rfl rfl (v_if_ne_f (t := 25) rfl rfl (by decide) (q_aload_n rfl rfl ?_)))))))
      refine q_dup rfl rfl ?_
      have h_9 := ir_0_13 hI
      refine v_gi (z := 13) (v := c 0 13) rfl rfl rfl (Nat.le_of_ble_eq_true rfl) rfl rfl rfl (q_iconst rfl (v_iadd (v := c 0 13 + 1) rfl rfl (v_nrm (fun y_10 hy_10 => (v_pi (z := 13) rfl rfl rfl (Nat.le_of_ble_eq_true rfl) rfl rfl rfl (by decide) (v_new rfl rfl (by decide) (by omega) (Nat.le_of_ble_eq_true rfl) (by decide) rfl (bk_out rfl rfl (bk_out rfl rfl ?_))))))))
      have hI_11 := iw_0_13 (v := y_10) hI ⟨hy_10.1, hy_10.2⟩
      have h_12 : (up c 0 13 y_10) 1 3 = c 1 3 := (up_c (nn rfl))
      exact T101 _ hI_11 (fun a j hm => up_b (Decidable.or_iff_not_imp_left.mpr (fun h1 h2 => hm ⟨Decidable.not_not.mp h1, h2⟩))) (by first | exact q_94b7ed2f4 | omega) (by omega)
    · refine v_ic_gt_f (t := 14) rfl rfl ⟨ha1.1, (Int.not_lt.mp h_8), by omega⟩ (q_iconst rfl (q_goto (t := 15) rfl rfl (v_zret rfl rfl (by decide) (bk_inl (v_cv rfl rfl rfl rfl (Nat.le_of_ble_eq_true rfl) ⟨⟨rfl, rfl⟩, Nat.le_of_ble_eq_true rfl, rfl⟩ (Nat.le_of_ble_eq_true rfl) (Nat.le_of_ble_eq_true rfl) (q_iload_n rfl rfl (v_if_ne_t (t := 25) rfl rfl (by decide) ?_)))))))
      refine q_vret rfl rfl (bk_inl (q_aload_n rfl rfl (v_gr (t := 1) rfl rfl rfl (Nat.le_of_ble_eq_true rfl) rfl (q_iload_n rfl rfl (v_cv rfl rfl rfl rfl (Nat.le_of_ble_eq_true rfl) ⟨⟨rfl, rfl⟩, Nat.le_of_ble_eq_true rfl, rfl⟩ (Nat.le_of_ble_eq_true rfl) (Nat.le_of_ble_eq_true rfl) (s_74 (a1 := a1) hI (show 0 ≤ a1 ∧ a1 ≤ 600 from ⟨by first | exact q_720657ba9 h_3 | omega, by omega⟩) (fun c_13 hI_14 hF_15 h_16 => (bk_inl ?_))))))))
      have h_17 := ir_1_3 hI_14
      refine q_vret rfl rfl (bk_inl (q_aload_n rfl rfl (v_gr (t := P) rfl rfl rfl (Nat.le_of_ble_eq_true rfl) rfl (q_aload_n rfl rfl (v_gr (t := 1) rfl rfl rfl (Nat.le_of_ble_eq_true rfl) rfl (v_cv rfl rfl rfl (ck_p0 hP) (a68z hP) ⟨⟨rfl, rfl⟩, by decide, rfl⟩ (Nat.le_of_ble_eq_true rfl) (Nat.le_of_ble_eq_true rfl) (s_35 hI_14 hP (fun c_18 hI_19 hF_20 => (bk_inl ?_)))))))))
      refine q_aload_n rfl rfl (q_aload_n rfl rfl (v_gr (t := P) rfl rfl rfl (Nat.le_of_ble_eq_true rfl) rfl ?_))
      have h_21 := ir_p0_4 hI_19 hP
      refine v_gi (z := 4) (v := c_18 P 4) rfl rfl (ck_p0 hP) (a68z hP) rfl rfl rfl (v_cv rfl rfl rfl rfl (Nat.le_of_ble_eq_true rfl) ⟨⟨rfl, rfl⟩, Nat.le_of_ble_eq_true rfl, rfl⟩ (Nat.le_of_ble_eq_true rfl) (Nat.le_of_ble_eq_true rfl) (q_aload_n rfl rfl (v_gr (t := 1) rfl rfl rfl (Nat.le_of_ble_eq_true rfl) rfl (v_cv rfl rfl rfl rfl (Nat.le_of_ble_eq_true rfl) ⟨⟨rfl, rfl⟩, Nat.le_of_ble_eq_true rfl, rfl⟩ (Nat.le_of_ble_eq_true rfl) (Nat.le_of_ble_eq_true rfl) (q_aload_n rfl rfl ?_)))))
      have h_22 := ir_1_4 hI_19
      refine v_gi (z := 4) (v := c_18 1 4) rfl rfl rfl (Nat.le_of_ble_eq_true rfl) rfl rfl rfl ?_
      by_cases h_23 : c_18 1 4 ≠ 0
      · refine v_if_ne_t (t := 11) rfl rfl ⟨h_23, ⟨(Int.le_trans (by decide) h_22.1), (Int.le_trans h_22.2 (by decide))⟩, by decide, by decide⟩ (q_iconst rfl (v_zret rfl rfl (by decide) (bk_inl (v_if_eq_t (t := 14) rfl rfl (by decide) (q_aload_n rfl rfl (v_gr (t := 1) rfl rfl rfl (Nat.le_of_ble_eq_true rfl) rfl (v_gi (z := 4) (v := c_18 1 4) rfl rfl rfl (Nat.le_of_ble_eq_true rfl) rfl rfl rfl ?_)))))))
        refine v_bip rfl (by decide) (v_isub (v := c_18 1 4 - 10) rfl rfl (q_iret rfl rfl (bk_inl (q_iret rfl rfl ?_))))
        have kn_24 : Hid (c_18 1 3 = c_13 1 3) := hF_20 1 3 (fun q => q.elim (fun h => absurd h.2 (ni rfl)) (fun q => q.elim (fun h => absurd h.2 (ni rfl)) (fun q => q.elim (fun h => absurd h.2 (ni rfl)) (fun q => q.elim (fun h => absurd h.1 (pn0 hP rfl)) (fun q => q.elim (fun h => absurd h (pn hP rfl rfl)) (fun h => absurd h (pn hP rfl rfl)))))))
        have h_25 : c_18 1 3 = c_13 1 3 := (hid kn_24)
        exact K c_18 (c_18 1 4 - 10) hI_19 (fun a j hm => (hF_20 a j (fun q => q.elim (fun h => hm (Or.inr (Or.inl h))) (fun q => q.elim (fun h => hm (Or.inr (Or.inr (Or.inr (Or.inl h))))) (fun q => q.elim (fun h => hm (Or.inr (Or.inr (Or.inr (Or.inr (Or.inl h)))))) (fun q => q.elim (fun h => hm (Or.inr (Or.inr (Or.inr (Or.inr (Or.inr (Or.inr (Or.inl h)))))))) (fun q => q.elim (fun h => hm (Or.inr (Or.inr (Or.inr (Or.inr (Or.inr (Or.inr (Or.inr (Or.inl h))))))))) (fun h => hm (Or.inr (Or.inr (Or.inr (Or.inr (Or.inr (Or.inr (Or.inr (Or.inr h))))))))))))))).trans (hF_15 a j (fun q => q.elim (fun h => hm (Or.inl h)) (fun q => q.elim (fun h => hm (Or.inr (Or.inl h))) (fun q => q.elim (fun h => hm (Or.inr (Or.inr (Or.inl h)))) (fun q => q.elim (fun h => hm (Or.inr (Or.inr (Or.inr (Or.inl h))))) (fun h => hm (Or.inr (Or.inr (Or.inr (Or.inr (Or.inl h)))))))))))) ⟨by first | exact rgm_l h_22.1 (by decide) | omega, by first | exact rgm_h h_22.2 (by decide) | omega⟩ ⟨by first | (clear ha1 h_1 h_3 h_8 h_21 h_22 h_23; omega) | omega, by first | exact q_720657ba9 h_3 | (clear ha1 h_1 h_8 h_17 h_16 h_21 h_22 h_23; omega) | omega, by first | (clear ha1 h_1 h_3 h_17 h_16 h_21 h_22 h_23; omega) | omega, by first | (clear ha1 h_1 h_3 h_17 h_16 h_21 h_22 h_23; omega) | omega⟩
      · refine v_if_ne_f (t := 11) rfl rfl (Decidable.not_not.mp h_23) (q_iconst rfl (q_goto (t := 12) rfl rfl (v_zret rfl rfl (by decide) (bk_inl (v_if_eq_f (t := 14) rfl rfl (by decide) (q_iload_n rfl rfl (q_goto (t := 24) rfl rfl ?_)))))))
        refine q_iret rfl rfl (bk_inl (q_iret rfl rfl ?_))
        have kn_26 : Hid (c_18 1 3 = c_13 1 3) := hF_20 1 3 (fun q => q.elim (fun h => absurd h.2 (ni rfl)) (fun q => q.elim (fun h => absurd h.2 (ni rfl)) (fun q => q.elim (fun h => absurd h.2 (ni rfl)) (fun q => q.elim (fun h => absurd h.1 (pn0 hP rfl)) (fun q => q.elim (fun h => absurd h (pn hP rfl rfl)) (fun h => absurd h (pn hP rfl rfl)))))))
        have h_27 : c_18 1 3 = c_13 1 3 := (hid kn_26)
        exact K c_18 (c_18 P 4) hI_19 (fun a j hm => (hF_20 a j (fun q => q.elim (fun h => hm (Or.inr (Or.inl h))) (fun q => q.elim (fun h => hm (Or.inr (Or.inr (Or.inr (Or.inl h))))) (fun q => q.elim (fun h => hm (Or.inr (Or.inr (Or.inr (Or.inr (Or.inl h)))))) (fun q => q.elim (fun h => hm (Or.inr (Or.inr (Or.inr (Or.inr (Or.inr (Or.inr (Or.inl h)))))))) (fun q => q.elim (fun h => hm (Or.inr (Or.inr (Or.inr (Or.inr (Or.inr (Or.inr (Or.inr (Or.inl h))))))))) (fun h => hm (Or.inr (Or.inr (Or.inr (Or.inr (Or.inr (Or.inr (Or.inr (Or.inr h))))))))))))))).trans (hF_15 a j (fun q => q.elim (fun h => hm (Or.inl h)) (fun q => q.elim (fun h => hm (Or.inr (Or.inl h))) (fun q => q.elim (fun h => hm (Or.inr (Or.inr (Or.inl h)))) (fun q => q.elim (fun h => hm (Or.inr (Or.inr (Or.inr (Or.inl h))))) (fun h => hm (Or.inr (Or.inr (Or.inr (Or.inr (Or.inl h)))))))))))) ⟨(Int.le_trans (by decide) h_21.1), (Int.le_trans h_21.2 (by decide))⟩ ⟨by omega, by first | exact q_720657ba9 h_3 | omega, by omega, by omega⟩

set_option maxRecDepth 100000 in
set_option maxHeartbeats 4000000 in
theorem s_88 {sc : List Int32} {e : Int} {d u P Q : Nat} {c : ME} {a1 : Int} {Z : AR → Prop} (hI : Iv u e P Q c) (ha1 : (-2147483648) ≤ a1 ∧ a1 ≤ 2147483647) (T101 : ∀ c2 : ME, Iv u e P Q c2 → (∀ (a : Nat) (j : Int), ¬ ((a = 0 ∧ j = 13)) → c2 a j = c a j) → ((c2 1 3 = c 1 3)) → ((a1 < 0) ∨ (a1 > c 1 3) ∨ (a1 > 60)) → Z (.inr 101, Wd P Q P P c2, 1, 6)) (K : ∀ (c2 : ME) (y : Int), Iv u e P Q c2 → (∀ (a : Nat) (j : Int), ¬ ((a = 1 ∧ j = 1) ∨ (a = 1 ∧ j = 2) ∨ (a = 1 ∧ j = 3) ∨ (a = 1 ∧ j = 4) ∨ (a = 1 ∧ j = 5) ∨ (a = 0 ∧ j = 13) ∨ (a = P ∧ j = 5) ∨ a = (P + 5) ∨ a = (P + 6)) → c2 a j = c a j) → (-2147483648) ≤ y ∧ y ≤ 2147483647 → ((c2 1 3 = 0 ∧ a1 ≥ 0 ∧ a1 ≤ c 1 3 ∧ a1 ≤ 60)) → Z (.inl (some (vi y)), Wd P Q P P c2, 0, 0)) : Wp sc (d + 11) 88 0 [(0, .ref 0), (1, vi a1)] [] (Wd P Q P P c) 0 0 Z := by
  have hP := iv_P hI
  have hQ := iv_Q hI
  refine q_aload_n rfl rfl (q_iload_n rfl rfl (v_bip rfl (by decide) (v_cv rfl rfl rfl rfl (Nat.le_of_ble_eq_true rfl) ⟨⟨rfl, rfl⟩, Nat.le_of_ble_eq_true rfl, rfl⟩ (Nat.le_of_ble_eq_true rfl) (Nat.le_of_ble_eq_true rfl) (q_aload_n rfl rfl (q_iload_n rfl rfl (q_iconst rfl (q_iload_n rfl rfl ?_)))))))
  refine q_aload_n rfl rfl (v_gr (t := 1) rfl rfl rfl (Nat.le_of_ble_eq_true rfl) rfl ?_)
  have h_1 := ir_1_3 hI
  refine v_gi (z := 3) (v := c 1 3) rfl rfl rfl (Nat.le_of_ble_eq_true rfl) rfl rfl rfl (v_minx rfl rfl (by omega) (Nat.le_of_ble_eq_true rfl) ⟨by omega, by omega, by omega, by omega⟩ (fun y_2 hy_2 => (q_call rfl rfl rfl rfl (q_iload_n rfl rfl (q_iload_n rfl rfl ?_)))))
  by_cases h_3 : a1 < 0
  · refine v_ic_lt_t (t := 14) rfl rfl ⟨ha1.1, h_3, by decide⟩ (q_iconst rfl (v_zret rfl rfl (by decide) (bk_inl (v_cv rfl rfl rfl rfl (Nat.le_of_ble_eq_true rfl) ⟨⟨rfl, rfl⟩, Nat.le_of_ble_eq_true rfl, rfl⟩ (Nat.le_of_ble_eq_true rfl) (Nat.le_of_ble_eq_true rfl) (q_iload_n rfl rfl (v_if_ne_f (t := 25) rfl rfl (by decide) (q_aload_n rfl rfl ?_)))))))
    refine q_dup rfl rfl ?_
    have h_4 := ir_0_13 hI
    refine v_gi (z := 13) (v := c 0 13) rfl rfl rfl (Nat.le_of_ble_eq_true rfl) rfl rfl rfl (q_iconst rfl (v_iadd (v := c 0 13 + 1) rfl rfl (v_nrm (fun y_5 hy_5 => (v_pi (z := 13) rfl rfl rfl (Nat.le_of_ble_eq_true rfl) rfl rfl rfl (by decide) (v_new rfl rfl (by decide) (by omega) (Nat.le_of_ble_eq_true rfl) (by decide) rfl (bk_out rfl rfl (bk_out rfl rfl ?_))))))))
    have hI_6 := iw_0_13 (v := y_5) hI ⟨hy_5.1, hy_5.2⟩
    have h_7 : (up c 0 13 y_5) 1 3 = c 1 3 := (up_c (nn rfl))
    exact T101 _ hI_6 (fun a j hm => up_b (Decidable.or_iff_not_imp_left.mpr (fun h1 h2 => hm ⟨Decidable.not_not.mp h1, h2⟩))) (by first | exact q_94b7ed2f4 | omega) (Or.inl (by first | exact q_e97a17f6e h_3 | omega))
  · refine v_ic_lt_f (t := 14) rfl rfl ⟨by decide, (Int.not_lt.mp h_3), ha1.2⟩ (q_iload_n rfl rfl (q_iload_n rfl rfl ?_))
    by_cases h_8 : a1 > y_2
    · refine v_ic_gt_t (t := 14) rfl rfl ⟨by omega, h_8, ha1.2⟩ (q_iconst rfl (v_zret rfl rfl (by decide) (bk_inl (v_cv rfl rfl rfl rfl (Nat.le_of_ble_eq_true rfl) ⟨⟨rfl, rfl⟩, Nat.le_of_ble_eq_true rfl, rfl⟩ (Nat.le_of_ble_eq_true rfl) (Nat.le_of_ble_eq_true rfl) (q_iload_n rfl rfl (v_if_ne_f (t := 25) rfl rfl (by decide) (q_aload_n rfl rfl ?_)))))))
      refine q_dup rfl rfl ?_
      have h_9 := ir_0_13 hI
      refine v_gi (z := 13) (v := c 0 13) rfl rfl rfl (Nat.le_of_ble_eq_true rfl) rfl rfl rfl (q_iconst rfl (v_iadd (v := c 0 13 + 1) rfl rfl (v_nrm (fun y_10 hy_10 => (v_pi (z := 13) rfl rfl rfl (Nat.le_of_ble_eq_true rfl) rfl rfl rfl (by decide) (v_new rfl rfl (by decide) (by omega) (Nat.le_of_ble_eq_true rfl) (by decide) rfl (bk_out rfl rfl (bk_out rfl rfl ?_))))))))
      have hI_11 := iw_0_13 (v := y_10) hI ⟨hy_10.1, hy_10.2⟩
      have h_12 : (up c 0 13 y_10) 1 3 = c 1 3 := (up_c (nn rfl))
      exact T101 _ hI_11 (fun a j hm => up_b (Decidable.or_iff_not_imp_left.mpr (fun h1 h2 => hm ⟨Decidable.not_not.mp h1, h2⟩))) (by first | exact q_94b7ed2f4 | omega) (by omega)
    · refine v_ic_gt_f (t := 14) rfl rfl ⟨ha1.1, (Int.not_lt.mp h_8), by omega⟩ (q_iconst rfl (q_goto (t := 15) rfl rfl (v_zret rfl rfl (by decide) (bk_inl (v_cv rfl rfl rfl rfl (Nat.le_of_ble_eq_true rfl) ⟨⟨rfl, rfl⟩, Nat.le_of_ble_eq_true rfl, rfl⟩ (Nat.le_of_ble_eq_true rfl) (Nat.le_of_ble_eq_true rfl) (q_iload_n rfl rfl (v_if_ne_t (t := 25) rfl rfl (by decide) ?_)))))))
      refine q_vret rfl rfl (bk_inl (q_aload_n rfl rfl (v_gr (t := 1) rfl rfl rfl (Nat.le_of_ble_eq_true rfl) rfl (q_iload_n rfl rfl (v_cv rfl rfl rfl rfl (Nat.le_of_ble_eq_true rfl) ⟨⟨rfl, rfl⟩, Nat.le_of_ble_eq_true rfl, rfl⟩ (Nat.le_of_ble_eq_true rfl) (Nat.le_of_ble_eq_true rfl) (s_74 (a1 := a1) hI (show 0 ≤ a1 ∧ a1 ≤ 600 from ⟨by first | exact q_720657ba9 h_3 | omega, by omega⟩) (fun c_13 hI_14 hF_15 h_16 => (bk_inl ?_))))))))
      have h_17 := ir_1_3 hI_14
      refine q_vret rfl rfl (bk_inl (q_aload_n rfl rfl (v_gr (t := P) rfl rfl rfl (Nat.le_of_ble_eq_true rfl) rfl (q_aload_n rfl rfl (v_gr (t := 1) rfl rfl rfl (Nat.le_of_ble_eq_true rfl) rfl (v_cv rfl rfl rfl (ck_p0 hP) (a68z hP) ⟨⟨rfl, rfl⟩, by decide, rfl⟩ (Nat.le_of_ble_eq_true rfl) (Nat.le_of_ble_eq_true rfl) (s_36 hI_14 hP (fun c_18 hI_19 hF_20 => (bk_inl ?_)))))))))
      refine q_aload_n rfl rfl (q_aload_n rfl rfl (v_gr (t := P) rfl rfl rfl (Nat.le_of_ble_eq_true rfl) rfl ?_))
      have h_21 := ir_p0_5 hI_19 hP
      refine v_gi (z := 5) (v := c_18 P 5) rfl rfl (ck_p0 hP) (a68z hP) rfl rfl rfl (v_cv rfl rfl rfl rfl (Nat.le_of_ble_eq_true rfl) ⟨⟨rfl, rfl⟩, Nat.le_of_ble_eq_true rfl, rfl⟩ (Nat.le_of_ble_eq_true rfl) (Nat.le_of_ble_eq_true rfl) (q_aload_n rfl rfl (v_gr (t := 1) rfl rfl rfl (Nat.le_of_ble_eq_true rfl) rfl (v_cv rfl rfl rfl rfl (Nat.le_of_ble_eq_true rfl) ⟨⟨rfl, rfl⟩, Nat.le_of_ble_eq_true rfl, rfl⟩ (Nat.le_of_ble_eq_true rfl) (Nat.le_of_ble_eq_true rfl) (q_aload_n rfl rfl ?_)))))
      have h_22 := ir_1_4 hI_19
      refine v_gi (z := 4) (v := c_18 1 4) rfl rfl rfl (Nat.le_of_ble_eq_true rfl) rfl rfl rfl ?_
      by_cases h_23 : c_18 1 4 ≠ 0
      · refine v_if_ne_t (t := 11) rfl rfl ⟨h_23, ⟨(Int.le_trans (by decide) h_22.1), (Int.le_trans h_22.2 (by decide))⟩, by decide, by decide⟩ (q_iconst rfl (v_zret rfl rfl (by decide) (bk_inl (v_if_eq_t (t := 14) rfl rfl (by decide) (q_aload_n rfl rfl (v_gr (t := 1) rfl rfl rfl (Nat.le_of_ble_eq_true rfl) rfl (v_gi (z := 4) (v := c_18 1 4) rfl rfl rfl (Nat.le_of_ble_eq_true rfl) rfl rfl rfl ?_)))))))
        refine v_bip rfl (by decide) (v_isub (v := c_18 1 4 - 10) rfl rfl (q_iret rfl rfl (bk_inl (q_iret rfl rfl ?_))))
        have kn_24 : Hid (c_18 1 3 = c_13 1 3) := hF_20 1 3 (fun q => q.elim (fun h => absurd h.2 (ni rfl)) (fun q => q.elim (fun h => absurd h.2 (ni rfl)) (fun q => q.elim (fun h => absurd h.2 (ni rfl)) (fun q => q.elim (fun h => absurd h.1 (pn0 hP rfl)) (fun q => q.elim (fun h => absurd h (pn hP rfl rfl)) (fun h => absurd h (pn hP rfl rfl)))))))
        have h_25 : c_18 1 3 = c_13 1 3 := (hid kn_24)
        exact K c_18 (c_18 1 4 - 10) hI_19 (fun a j hm => (hF_20 a j (fun q => q.elim (fun h => hm (Or.inr (Or.inl h))) (fun q => q.elim (fun h => hm (Or.inr (Or.inr (Or.inr (Or.inl h))))) (fun q => q.elim (fun h => hm (Or.inr (Or.inr (Or.inr (Or.inr (Or.inl h)))))) (fun q => q.elim (fun h => hm (Or.inr (Or.inr (Or.inr (Or.inr (Or.inr (Or.inr (Or.inl h)))))))) (fun q => q.elim (fun h => hm (Or.inr (Or.inr (Or.inr (Or.inr (Or.inr (Or.inr (Or.inr (Or.inl h))))))))) (fun h => hm (Or.inr (Or.inr (Or.inr (Or.inr (Or.inr (Or.inr (Or.inr (Or.inr h))))))))))))))).trans (hF_15 a j (fun q => q.elim (fun h => hm (Or.inl h)) (fun q => q.elim (fun h => hm (Or.inr (Or.inl h))) (fun q => q.elim (fun h => hm (Or.inr (Or.inr (Or.inl h)))) (fun q => q.elim (fun h => hm (Or.inr (Or.inr (Or.inr (Or.inl h))))) (fun h => hm (Or.inr (Or.inr (Or.inr (Or.inr (Or.inl h)))))))))))) ⟨by first | exact rgm_l h_22.1 (by decide) | omega, by first | exact rgm_h h_22.2 (by decide) | omega⟩ ⟨by first | (clear ha1 h_1 h_3 h_8 h_21 h_22 h_23; omega) | omega, by first | exact q_720657ba9 h_3 | (clear ha1 h_1 h_8 h_17 h_16 h_21 h_22 h_23; omega) | omega, by first | (clear ha1 h_1 h_3 h_17 h_16 h_21 h_22 h_23; omega) | omega, by first | (clear ha1 h_1 h_3 h_17 h_16 h_21 h_22 h_23; omega) | omega⟩
      · refine v_if_ne_f (t := 11) rfl rfl (Decidable.not_not.mp h_23) (q_iconst rfl (q_goto (t := 12) rfl rfl (v_zret rfl rfl (by decide) (bk_inl (v_if_eq_f (t := 14) rfl rfl (by decide) (q_iload_n rfl rfl (q_goto (t := 24) rfl rfl ?_)))))))
        refine q_iret rfl rfl (bk_inl (q_iret rfl rfl ?_))
        have kn_26 : Hid (c_18 1 3 = c_13 1 3) := hF_20 1 3 (fun q => q.elim (fun h => absurd h.2 (ni rfl)) (fun q => q.elim (fun h => absurd h.2 (ni rfl)) (fun q => q.elim (fun h => absurd h.2 (ni rfl)) (fun q => q.elim (fun h => absurd h.1 (pn0 hP rfl)) (fun q => q.elim (fun h => absurd h (pn hP rfl rfl)) (fun h => absurd h (pn hP rfl rfl)))))))
        have h_27 : c_18 1 3 = c_13 1 3 := (hid kn_26)
        exact K c_18 (c_18 P 5) hI_19 (fun a j hm => (hF_20 a j (fun q => q.elim (fun h => hm (Or.inr (Or.inl h))) (fun q => q.elim (fun h => hm (Or.inr (Or.inr (Or.inr (Or.inl h))))) (fun q => q.elim (fun h => hm (Or.inr (Or.inr (Or.inr (Or.inr (Or.inl h)))))) (fun q => q.elim (fun h => hm (Or.inr (Or.inr (Or.inr (Or.inr (Or.inr (Or.inr (Or.inl h)))))))) (fun q => q.elim (fun h => hm (Or.inr (Or.inr (Or.inr (Or.inr (Or.inr (Or.inr (Or.inr (Or.inl h))))))))) (fun h => hm (Or.inr (Or.inr (Or.inr (Or.inr (Or.inr (Or.inr (Or.inr (Or.inr h))))))))))))))).trans (hF_15 a j (fun q => q.elim (fun h => hm (Or.inl h)) (fun q => q.elim (fun h => hm (Or.inr (Or.inl h))) (fun q => q.elim (fun h => hm (Or.inr (Or.inr (Or.inl h)))) (fun q => q.elim (fun h => hm (Or.inr (Or.inr (Or.inr (Or.inl h))))) (fun h => hm (Or.inr (Or.inr (Or.inr (Or.inr (Or.inl h)))))))))))) ⟨(Int.le_trans (by decide) h_21.1), (Int.le_trans h_21.2 (by decide))⟩ ⟨by omega, by first | exact q_720657ba9 h_3 | omega, by omega, by omega⟩

set_option maxRecDepth 100000 in
set_option maxHeartbeats 4000000 in
theorem s_89 {sc : List Int32} {e : Int} {d u P Q : Nat} {c : ME} {Z : AR → Prop} (hI : Iv u e P Q c)  (K : ∀ (y : Int), (-1) ≤ y ∧ y ≤ 600 → Z (.inl (some (vi y)), Wd P Q P P c, 0, 0)) : Wp sc (d + 7) 89 0 [(0, .ref 0)] [] (Wd P Q P P c) 0 0 Z := by
  have hP := iv_P hI
  have hQ := iv_Q hI
  refine q_aload_n rfl rfl (v_gr (t := 1) rfl rfl rfl (Nat.le_of_ble_eq_true rfl) rfl ?_)
  have h_1 := ir_1_5 hI
  refine v_gi (z := 5) (v := c 1 5) rfl rfl rfl (Nat.le_of_ble_eq_true rfl) rfl rfl rfl (q_iret rfl rfl ?_)
  exact K (c 1 5) h_1

set_option maxRecDepth 100000 in
set_option maxHeartbeats 4000000 in
theorem s_90 {sc : List Int32} {e : Int} {d u P Q : Nat} {c : ME} {a1 : Int} {Z : AR → Prop} (hI : Iv u e P Q c) (ha1 : (-2147483648) ≤ a1 ∧ a1 ≤ 2147483647) (T101 : ∀ c2 : ME, Iv u e P Q c2 → (∀ (a : Nat) (j : Int), ¬ ((a = 0 ∧ j = 13)) → c2 a j = c a j) → Z (.inr 101, Wd P Q P P c2, 1, 6)) (K : ∀ (c2 : ME) (y : Int), Iv u e P Q c2 → (∀ (a : Nat) (j : Int), ¬ ((a = 0 ∧ j = 13)) → c2 a j = c a j) → (-2147483648) ≤ y ∧ y ≤ 2147483647 → Z (.inl (some (vi y)), Wd P Q P P c2, 0, 0)) : Wp sc (d + 9) 90 0 [(0, .ref 0), (1, vi a1)] [] (Wd P Q P P c) 0 0 Z := by
  have hP := iv_P hI
  have hQ := iv_Q hI
  refine q_aload_n rfl rfl (q_iload_n rfl rfl (q_iconst rfl (v_bip rfl (by decide) (q_call rfl rfl rfl rfl (q_iload_n rfl rfl (q_iload_n rfl rfl ?_))))))
  by_cases h_1 : a1 < 0
  · refine v_ic_lt_t (t := 14) rfl rfl ⟨ha1.1, h_1, by decide⟩ (q_iconst rfl (v_zret rfl rfl (by decide) (bk_inl (v_cv rfl rfl rfl rfl (Nat.le_of_ble_eq_true rfl) ⟨⟨rfl, rfl⟩, Nat.le_of_ble_eq_true rfl, rfl⟩ (Nat.le_of_ble_eq_true rfl) (Nat.le_of_ble_eq_true rfl) (q_iload_n rfl rfl (v_if_ne_f (t := 25) rfl rfl (by decide) (q_aload_n rfl rfl ?_)))))))
    refine q_dup rfl rfl ?_
    have h_2 := ir_0_13 hI
    refine v_gi (z := 13) (v := c 0 13) rfl rfl rfl (Nat.le_of_ble_eq_true rfl) rfl rfl rfl (q_iconst rfl (v_iadd (v := c 0 13 + 1) rfl rfl (v_nrm (fun y_3 hy_3 => (v_pi (z := 13) rfl rfl rfl (Nat.le_of_ble_eq_true rfl) rfl rfl rfl (by decide) (v_new rfl rfl (by decide) (by omega) (Nat.le_of_ble_eq_true rfl) (by decide) rfl (bk_out rfl rfl ?_)))))))
    have hI_4 := iw_0_13 (v := y_3) hI ⟨hy_3.1, hy_3.2⟩
    exact T101 _ hI_4 (fun a j hm => up_b (Decidable.or_iff_not_imp_left.mpr (fun h1 h2 => hm ⟨Decidable.not_not.mp h1, h2⟩)))
  · refine v_ic_lt_f (t := 14) rfl rfl ⟨by decide, (Int.not_lt.mp h_1), ha1.2⟩ (q_iload_n rfl rfl (q_iload_n rfl rfl ?_))
    by_cases h_5 : a1 > 12
    · refine v_ic_gt_t (t := 14) rfl rfl ⟨by decide, h_5, ha1.2⟩ (q_iconst rfl (v_zret rfl rfl (by decide) (bk_inl (v_cv rfl rfl rfl rfl (Nat.le_of_ble_eq_true rfl) ⟨⟨rfl, rfl⟩, Nat.le_of_ble_eq_true rfl, rfl⟩ (Nat.le_of_ble_eq_true rfl) (Nat.le_of_ble_eq_true rfl) (q_iload_n rfl rfl (v_if_ne_f (t := 25) rfl rfl (by decide) (q_aload_n rfl rfl ?_)))))))
      refine q_dup rfl rfl ?_
      have h_6 := ir_0_13 hI
      refine v_gi (z := 13) (v := c 0 13) rfl rfl rfl (Nat.le_of_ble_eq_true rfl) rfl rfl rfl (q_iconst rfl (v_iadd (v := c 0 13 + 1) rfl rfl (v_nrm (fun y_7 hy_7 => (v_pi (z := 13) rfl rfl rfl (Nat.le_of_ble_eq_true rfl) rfl rfl rfl (by decide) (v_new rfl rfl (by decide) (by omega) (Nat.le_of_ble_eq_true rfl) (by decide) rfl (bk_out rfl rfl ?_)))))))
      have hI_8 := iw_0_13 (v := y_7) hI ⟨hy_7.1, hy_7.2⟩
      exact T101 _ hI_8 (fun a j hm => up_b (Decidable.or_iff_not_imp_left.mpr (fun h1 h2 => hm ⟨Decidable.not_not.mp h1, h2⟩)))
    · refine v_ic_gt_f (t := 14) rfl rfl ⟨ha1.1, (Int.not_lt.mp h_5), by decide⟩ (q_iconst rfl (q_goto (t := 15) rfl rfl (v_zret rfl rfl (by decide) (bk_inl (v_cv rfl rfl rfl rfl (Nat.le_of_ble_eq_true rfl) ⟨⟨rfl, rfl⟩, Nat.le_of_ble_eq_true rfl, rfl⟩ (Nat.le_of_ble_eq_true rfl) (Nat.le_of_ble_eq_true rfl) (q_iload_n rfl rfl (v_if_ne_t (t := 25) rfl rfl (by decide) ?_)))))))
      refine q_vret rfl rfl (bk_inl (q_iload_n rfl rfl ?_))
      by_cases h_9 : a1 = 0
      · skip
        refine v_tsw_i (t := 76) 0 rfl (by omega) (by decide) rfl (by decide) (q_aload_n rfl rfl (v_gr (t := P) rfl rfl rfl (Nat.le_of_ble_eq_true rfl) rfl ?_))
        have h_10 := ir_p0_0 hI hP
        refine v_gi (z := 0) (v := c P 0) rfl rfl (ck_p0 hP) (a68z hP) rfl rfl rfl (q_iret rfl rfl ?_)
        exact K c (c P 0) hI (fun a j hm => rfl) ⟨(Int.le_trans (by decide) h_10.1), (Int.le_trans h_10.2 (by decide))⟩
      by_cases h_11 : a1 = 1
      · skip
        refine v_tsw_i (t := 84) 1 rfl (by omega) (by decide) rfl (by decide) (q_aload_n rfl rfl (v_gr (t := P) rfl rfl rfl (Nat.le_of_ble_eq_true rfl) rfl ?_))
        have h_12 := ir_p0_1 hI hP
        refine v_gi (z := 1) (v := c P 1) rfl rfl (ck_p0 hP) (a68z hP) rfl rfl rfl (q_iret rfl rfl ?_)
        exact K c (c P 1) hI (fun a j hm => rfl) ⟨(Int.le_trans (by decide) h_12.1), (Int.le_trans h_12.2 (by decide))⟩
      by_cases h_13 : a1 = 2
      · skip
        refine v_tsw_i (t := 92) 2 rfl (by omega) (by decide) rfl (by decide) (q_aload_n rfl rfl (v_gr (t := P) rfl rfl rfl (Nat.le_of_ble_eq_true rfl) rfl ?_))
        have h_14 := ir_p0_2 hI hP
        refine v_gi (z := 2) (v := c P 2) rfl rfl (ck_p0 hP) (a68z hP) rfl rfl rfl (q_iret rfl rfl ?_)
        exact K c (c P 2) hI (fun a j hm => rfl) ⟨(Int.le_trans (by decide) h_14.1), (Int.le_trans h_14.2 (by decide))⟩
      by_cases h_15 : a1 = 3
      · skip
        refine v_tsw_i (t := 100) 3 rfl (by omega) (by decide) rfl (by decide) (q_aload_n rfl rfl (v_gr (t := P) rfl rfl rfl (Nat.le_of_ble_eq_true rfl) rfl ?_))
        have h_16 := ir_p0_3 hI hP
        refine v_gi (z := 3) (v := c P 3) rfl rfl (ck_p0 hP) (a68z hP) rfl rfl rfl (q_iret rfl rfl ?_)
        exact K c (c P 3) hI (fun a j hm => rfl) ⟨(Int.le_trans (by decide) h_16.1), (Int.le_trans h_16.2 (by decide))⟩
      by_cases h_17 : a1 = 4
      · skip
        refine v_tsw_i (t := 108) 4 rfl (by omega) (by decide) rfl (by decide) (q_aload_n rfl rfl (v_gr (t := 37) rfl rfl rfl (Nat.le_of_ble_eq_true rfl) rfl (v_gr (t := 38) rfl rfl rfl (Nat.le_of_ble_eq_true rfl) rfl (v_bip rfl (by decide) ?_))))
        have h_18 := ir_38 hI 31
        refine v_ia (v := c 38 31) rfl rfl (by decide) (by decide) (by decide) rfl (q_iret rfl rfl ?_)
        exact K c (c 38 31) hI (fun a j hm => rfl) h_18
      by_cases h_19 : a1 = 5
      · skip
        refine v_tsw_i (t := 119) 5 rfl (by omega) (by decide) rfl (by decide) (q_aload_n rfl rfl (v_gr (t := 37) rfl rfl rfl (Nat.le_of_ble_eq_true rfl) rfl (v_cv rfl rfl rfl rfl (Nat.le_of_ble_eq_true rfl) ⟨⟨rfl, rfl⟩, Nat.le_of_ble_eq_true rfl, rfl⟩ (Nat.le_of_ble_eq_true rfl) (Nat.le_of_ble_eq_true rfl) (s_69 hI (.inl ⟨rfl, rfl⟩) (fun y_20 hy_20 => (bk_inl (q_iret rfl rfl ?_)))))))
        exact K c y_20 hI (fun a j hm => rfl) hy_20
      by_cases h_21 : a1 = 6
      · skip
        refine v_tsw_i (t := 127) 6 rfl (by omega) (by decide) rfl (by decide) (q_aload_n rfl rfl (v_gr (t := 37) rfl rfl rfl (Nat.le_of_ble_eq_true rfl) rfl (v_gr (t := 38) rfl rfl rfl (Nat.le_of_ble_eq_true rfl) rfl (v_bip rfl (by decide) ?_))))
        have h_22 := ir_38 hI 32
        refine v_ia (v := c 38 32) rfl rfl (by decide) (by decide) (by decide) rfl (q_iret rfl rfl ?_)
        exact K c (c 38 32) hI (fun a j hm => rfl) h_22
      by_cases h_23 : a1 = 7
      · skip
        refine v_tsw_i (t := 138) 7 rfl (by omega) (by decide) rfl (by decide) (q_aload_n rfl rfl (v_gr (t := 37) rfl rfl rfl (Nat.le_of_ble_eq_true rfl) rfl (v_gr (t := 38) rfl rfl rfl (Nat.le_of_ble_eq_true rfl) rfl (v_bip rfl (by decide) ?_))))
        have h_24 := ir_38 hI 33
        refine v_ia (v := c 38 33) rfl rfl (by decide) (by decide) (by decide) rfl (q_iret rfl rfl ?_)
        exact K c (c 38 33) hI (fun a j hm => rfl) h_24
      by_cases h_25 : a1 = 8
      · skip
        refine v_tsw_i (t := 149) 8 rfl (by omega) (by decide) rfl (by decide) (q_aload_n rfl rfl (v_gr (t := 37) rfl rfl rfl (Nat.le_of_ble_eq_true rfl) rfl (v_cv rfl rfl rfl rfl (Nat.le_of_ble_eq_true rfl) ⟨⟨rfl, rfl⟩, Nat.le_of_ble_eq_true rfl, rfl⟩ (Nat.le_of_ble_eq_true rfl) (Nat.le_of_ble_eq_true rfl) (s_70 hI (.inl ⟨rfl, rfl⟩) (fun y_26 hy_26 => (bk_inl (q_iret rfl rfl ?_)))))))
        exact K c y_26 hI (fun a j hm => rfl) hy_26
      by_cases h_27 : a1 = 9
      · skip
        refine v_tsw_i (t := 157) 9 rfl (by omega) (by decide) rfl (by decide) (q_aload_n rfl rfl (v_gr (t := 37) rfl rfl rfl (Nat.le_of_ble_eq_true rfl) rfl (v_gr (t := 38) rfl rfl rfl (Nat.le_of_ble_eq_true rfl) rfl (v_bip rfl (by decide) ?_))))
        have h_28 := ir_38 hI 30
        refine v_ia (v := c 38 30) rfl rfl (by decide) (by decide) (by decide) rfl (q_iret rfl rfl ?_)
        exact K c (c 38 30) hI (fun a j hm => rfl) h_28
      by_cases h_29 : a1 = 10
      · skip
        refine v_tsw_i (t := 168) 10 rfl (by omega) (by decide) rfl (by decide) (q_aload_n rfl rfl ?_)
        have h_30 := ir_0_11 hI
        refine v_gi (z := 11) (v := c 0 11) rfl rfl rfl (Nat.le_of_ble_eq_true rfl) rfl rfl rfl (q_iret rfl rfl ?_)
        exact K c (c 0 11) hI (fun a j hm => rfl) h_30
      by_cases h_31 : a1 = 11
      · skip
        refine v_tsw_i (t := 173) 11 rfl (by omega) (by decide) rfl (by decide) (q_aload_n rfl rfl (v_gr (t := P) rfl rfl rfl (Nat.le_of_ble_eq_true rfl) rfl ?_))
        have h_32 := ir_p0_4 hI hP
        refine v_gi (z := 4) (v := c P 4) rfl rfl (ck_p0 hP) (a68z hP) rfl rfl rfl (q_iret rfl rfl ?_)
        exact K c (c P 4) hI (fun a j hm => rfl) ⟨(Int.le_trans (by decide) h_32.1), (Int.le_trans h_32.2 (by decide))⟩
      refine v_tsw_o (t := 181) rfl (by omega) (by decide) (q_aload_n rfl rfl (v_gr (t := P) rfl rfl rfl (Nat.le_of_ble_eq_true rfl) rfl ?_))
      have h_33 := ir_p0_5 hI hP
      refine v_gi (z := 5) (v := c P 5) rfl rfl (ck_p0 hP) (a68z hP) rfl rfl rfl (q_iret rfl rfl ?_)
      exact K c (c P 5) hI (fun a j hm => rfl) ⟨(Int.le_trans (by decide) h_33.1), (Int.le_trans h_33.2 (by decide))⟩

set_option maxRecDepth 100000 in
set_option maxHeartbeats 4000000 in
theorem s_93 {sc : List Int32} {e : Int} {d u P Q : Nat} {c : ME} {a1 : Int} {a2 : Int} {Z : AR → Prop} (hI : Iv u e P Q c) (ha1 : (-2147483648) ≤ a1 ∧ a1 ≤ 2147483647) (ha2 : (-2147483648) ≤ a2 ∧ a2 ≤ 2147483647) (T100 : ∀ c2 : ME, Iv u e P Q c2 → (∀ (a : Nat) (j : Int), ¬ ((a = 0 ∧ j = 12) ∨ (a = 0 ∧ j = 13)) → c2 a j = c a j) → Z (.inr 100, Wd P Q P P c2, 1, 6)) (T101 : ∀ c2 : ME, Iv u e P Q c2 → (∀ (a : Nat) (j : Int), ¬ ((a = 0 ∧ j = 12) ∨ (a = 0 ∧ j = 13)) → c2 a j = c a j) → Z (.inr 101, Wd P Q P P c2, 1, 6)) (K : ∀ (c2 : ME) (y : Int), Iv u e P Q c2 → (∀ (a : Nat) (j : Int), ¬ ((a = 0 ∧ j = 12) ∨ (a = 0 ∧ j = 13)) → c2 a j = c a j) → (-2147483648) ≤ y ∧ y ≤ 2147483647 → Z (.inl (some (vi y)), Wd P Q P P c2, 0, 0)) : Wp sc (d + 9) 93 0 [(0, .ref 0), (1, vi a1), (2, vi a2)] [] (Wd P Q P P c) 0 0 Z := by
  have hP := iv_P hI
  have hQ := iv_Q hI
  refine q_aload_n rfl rfl (q_iload_n rfl rfl (v_cv rfl rfl rfl rfl (Nat.le_of_ble_eq_true rfl) ⟨⟨rfl, rfl⟩, Nat.le_of_ble_eq_true rfl, rfl⟩ (Nat.le_of_ble_eq_true rfl) (Nat.le_of_ble_eq_true rfl) (q_aload_n rfl rfl (q_iload_n rfl rfl (q_iconst rfl (q_aload_n rfl rfl (v_gr (t := P) rfl rfl rfl (Nat.le_of_ble_eq_true rfl) rfl ?_)))))))
  have h_1 := ir_p0_0 hI hP
  refine v_gi (z := 0) (v := c P 0) rfl rfl (ck_p0 hP) (a68z hP) rfl rfl rfl (q_iconst rfl (v_isub (v := c P 0 - 1) rfl rfl (q_call rfl rfl rfl rfl (q_iload_n rfl rfl (q_iload_n rfl rfl ?_)))))
  by_cases h_2 : a1 < 0
  · refine v_ic_lt_t (t := 14) rfl rfl ⟨ha1.1, h_2, by decide⟩ (q_iconst rfl (v_zret rfl rfl (by decide) (bk_inl (v_cv rfl rfl rfl rfl (Nat.le_of_ble_eq_true rfl) ⟨⟨rfl, rfl⟩, Nat.le_of_ble_eq_true rfl, rfl⟩ (Nat.le_of_ble_eq_true rfl) (Nat.le_of_ble_eq_true rfl) (q_iload_n rfl rfl (v_if_ne_f (t := 25) rfl rfl (by decide) (q_aload_n rfl rfl ?_)))))))
    refine q_dup rfl rfl ?_
    have h_3 := ir_0_12 hI
    refine v_gi (z := 12) (v := c 0 12) rfl rfl rfl (Nat.le_of_ble_eq_true rfl) rfl rfl rfl (q_iconst rfl (v_iadd (v := c 0 12 + 1) rfl rfl (v_nrm (fun y_4 hy_4 => (v_pi (z := 12) rfl rfl rfl (Nat.le_of_ble_eq_true rfl) rfl rfl rfl (by decide) (v_new rfl rfl (by decide) (by omega) (Nat.le_of_ble_eq_true rfl) (by decide) rfl (bk_out rfl rfl (bk_out rfl rfl ?_))))))))
    have hI_5 := iw_0_12 (v := y_4) hI ⟨hy_4.1, hy_4.2⟩
    exact T100 _ hI_5 (fun a j hm => up_b (Decidable.or_iff_not_imp_left.mpr (fun h1 h2 => hm (Or.inl ⟨Decidable.not_not.mp h1, h2⟩))))
  · refine v_ic_lt_f (t := 14) rfl rfl ⟨by decide, (Int.not_lt.mp h_2), ha1.2⟩ (q_iload_n rfl rfl (q_iload_n rfl rfl ?_))
    by_cases h_6 : a1 > c P 0 - 1
    · refine v_ic_gt_t (t := 14) rfl rfl ⟨by first | exact rgm_l h_1.1 (by decide) | omega, h_6, ha1.2⟩ (q_iconst rfl (v_zret rfl rfl (by decide) (bk_inl (v_cv rfl rfl rfl rfl (Nat.le_of_ble_eq_true rfl) ⟨⟨rfl, rfl⟩, Nat.le_of_ble_eq_true rfl, rfl⟩ (Nat.le_of_ble_eq_true rfl) (Nat.le_of_ble_eq_true rfl) (q_iload_n rfl rfl (v_if_ne_f (t := 25) rfl rfl (by decide) (q_aload_n rfl rfl ?_)))))))
      refine q_dup rfl rfl ?_
      have h_7 := ir_0_12 hI
      refine v_gi (z := 12) (v := c 0 12) rfl rfl rfl (Nat.le_of_ble_eq_true rfl) rfl rfl rfl (q_iconst rfl (v_iadd (v := c 0 12 + 1) rfl rfl (v_nrm (fun y_8 hy_8 => (v_pi (z := 12) rfl rfl rfl (Nat.le_of_ble_eq_true rfl) rfl rfl rfl (by decide) (v_new rfl rfl (by decide) (by omega) (Nat.le_of_ble_eq_true rfl) (by decide) rfl (bk_out rfl rfl (bk_out rfl rfl ?_))))))))
      have hI_9 := iw_0_12 (v := y_8) hI ⟨hy_8.1, hy_8.2⟩
      exact T100 _ hI_9 (fun a j hm => up_b (Decidable.or_iff_not_imp_left.mpr (fun h1 h2 => hm (Or.inl ⟨Decidable.not_not.mp h1, h2⟩))))
    · refine v_ic_gt_f (t := 14) rfl rfl ⟨ha1.1, (Int.not_lt.mp h_6), by first | exact rgm_h h_1.2 (by decide) | omega⟩ (q_iconst rfl (q_goto (t := 15) rfl rfl (v_zret rfl rfl (by decide) (bk_inl (v_cv rfl rfl rfl rfl (Nat.le_of_ble_eq_true rfl) ⟨⟨rfl, rfl⟩, Nat.le_of_ble_eq_true rfl, rfl⟩ (Nat.le_of_ble_eq_true rfl) (Nat.le_of_ble_eq_true rfl) (q_iload_n rfl rfl (v_if_ne_t (t := 25) rfl rfl (by decide) ?_)))))))
      refine q_vret rfl rfl (bk_inl (q_vret rfl rfl (bk_inl (q_aload_n rfl rfl (q_iload_n rfl rfl (q_iconst rfl (v_bip rfl (by decide) ?_)))))))
      refine q_call rfl rfl rfl rfl (q_iload_n rfl rfl (q_iload_n rfl rfl ?_))
      by_cases h_10 : a2 < 0
      · refine v_ic_lt_t (t := 14) rfl rfl ⟨ha2.1, h_10, by decide⟩ (q_iconst rfl (v_zret rfl rfl (by decide) (bk_inl (v_cv rfl rfl rfl rfl (Nat.le_of_ble_eq_true rfl) ⟨⟨rfl, rfl⟩, Nat.le_of_ble_eq_true rfl, rfl⟩ (Nat.le_of_ble_eq_true rfl) (Nat.le_of_ble_eq_true rfl) (q_iload_n rfl rfl (v_if_ne_f (t := 25) rfl rfl (by decide) (q_aload_n rfl rfl ?_)))))))
        refine q_dup rfl rfl ?_
        have h_11 := ir_0_13 hI
        refine v_gi (z := 13) (v := c 0 13) rfl rfl rfl (Nat.le_of_ble_eq_true rfl) rfl rfl rfl (q_iconst rfl (v_iadd (v := c 0 13 + 1) rfl rfl (v_nrm (fun y_12 hy_12 => (v_pi (z := 13) rfl rfl rfl (Nat.le_of_ble_eq_true rfl) rfl rfl rfl (by decide) (v_new rfl rfl (by decide) (by omega) (Nat.le_of_ble_eq_true rfl) (by decide) rfl (bk_out rfl rfl ?_)))))))
        have hI_13 := iw_0_13 (v := y_12) hI ⟨hy_12.1, hy_12.2⟩
        exact T101 _ hI_13 (fun a j hm => up_b (Decidable.or_iff_not_imp_left.mpr (fun h1 h2 => hm (Or.inr ⟨Decidable.not_not.mp h1, h2⟩))))
      · refine v_ic_lt_f (t := 14) rfl rfl ⟨by decide, (Int.not_lt.mp h_10), ha2.2⟩ (q_iload_n rfl rfl (q_iload_n rfl rfl ?_))
        by_cases h_14 : a2 > 6
        · refine v_ic_gt_t (t := 14) rfl rfl ⟨by decide, h_14, ha2.2⟩ (q_iconst rfl (v_zret rfl rfl (by decide) (bk_inl (v_cv rfl rfl rfl rfl (Nat.le_of_ble_eq_true rfl) ⟨⟨rfl, rfl⟩, Nat.le_of_ble_eq_true rfl, rfl⟩ (Nat.le_of_ble_eq_true rfl) (Nat.le_of_ble_eq_true rfl) (q_iload_n rfl rfl (v_if_ne_f (t := 25) rfl rfl (by decide) (q_aload_n rfl rfl ?_)))))))
          refine q_dup rfl rfl ?_
          have h_15 := ir_0_13 hI
          refine v_gi (z := 13) (v := c 0 13) rfl rfl rfl (Nat.le_of_ble_eq_true rfl) rfl rfl rfl (q_iconst rfl (v_iadd (v := c 0 13 + 1) rfl rfl (v_nrm (fun y_16 hy_16 => (v_pi (z := 13) rfl rfl rfl (Nat.le_of_ble_eq_true rfl) rfl rfl rfl (by decide) (v_new rfl rfl (by decide) (by omega) (Nat.le_of_ble_eq_true rfl) (by decide) rfl (bk_out rfl rfl ?_)))))))
          have hI_17 := iw_0_13 (v := y_16) hI ⟨hy_16.1, hy_16.2⟩
          exact T101 _ hI_17 (fun a j hm => up_b (Decidable.or_iff_not_imp_left.mpr (fun h1 h2 => hm (Or.inr ⟨Decidable.not_not.mp h1, h2⟩))))
        · refine v_ic_gt_f (t := 14) rfl rfl ⟨ha2.1, (Int.not_lt.mp h_14), by decide⟩ (q_iconst rfl (q_goto (t := 15) rfl rfl (v_zret rfl rfl (by decide) (bk_inl (v_cv rfl rfl rfl rfl (Nat.le_of_ble_eq_true rfl) ⟨⟨rfl, rfl⟩, Nat.le_of_ble_eq_true rfl, rfl⟩ (Nat.le_of_ble_eq_true rfl) (Nat.le_of_ble_eq_true rfl) (q_iload_n rfl rfl (v_if_ne_t (t := 25) rfl rfl (by decide) ?_)))))))
          refine q_vret rfl rfl (bk_inl (q_iload_n rfl rfl ?_))
          by_cases h_18 : a2 = 4
          · skip
            refine v_tsw_i (t := 44) 4 rfl (by omega) (by decide) rfl (by decide) (q_aload_n rfl rfl (v_gr (t := 37) rfl rfl rfl (Nat.le_of_ble_eq_true rfl) rfl (q_iload_n rfl rfl ?_)))
            have h_19 := ir_38_g hI (j := 4 * a1) (by first | exact q_b0d0e4535 h_1 h_6 | omega)
            have h_20 := ir_38_g hI (j := 4 * a1 + 1) (by first | exact q_e3354e5e9 h_1 h_6 | omega)
            have h_21 := ir_38_g hI (j := 4 * a1 + 2) (by first | exact q_0a5347bcd h_1 h_6 | omega)
            have h_22 := ir_38_g hI (j := 4 * a1 + 3) (by first | exact q_9939b3b7f h_1 h_6 | omega)
            refine v_cv rfl rfl rfl rfl (Nat.le_of_ble_eq_true rfl) ⟨⟨rfl, rfl⟩, Nat.le_of_ble_eq_true rfl, rfl⟩ (Nat.le_of_ble_eq_true rfl) (Nat.le_of_ble_eq_true rfl) (s_43 (v1 := c 38 (4 * a1)) (v2 := c 38 (4 * a1 + 1)) (v3 := c 38 (4 * a1 + 2)) (v4 := c 38 (4 * a1 + 3)) (r := c 38 (4 * a1 + 1) + c 38 (4 * a1 + 2) + c 38 (4 * a1 + 3) + c 38 (4 * a1)) (a1 := a1) hI (.inl ⟨rfl, rfl⟩) (show 0 ≤ a1 ∧ a1 ≤ 5 from ⟨by first | exact q_720657ba9 h_2 | omega, by first | exact q_3a2e67ab0 h_1 h_6 | omega⟩) (rfl) (rfl) (rfl) (rfl) (by omega) (bk_inl (q_iret rfl rfl ?_)))
            exact K c (c 38 (4 * a1 + 1) + c 38 (4 * a1 + 2) + c 38 (4 * a1 + 3) + c 38 (4 * a1)) hI (fun a j hm => rfl) ⟨by first | exact q_e052ef40e h_19 h_20 h_21 h_22 | omega, by first | exact q_db9ef1f4a h_19 h_20 h_21 h_22 | omega⟩
          by_cases h_23 : a2 = 5
          · skip
            refine v_tsw_i (t := 53) 5 rfl (by omega) (by decide) rfl (by decide) (q_aload_n rfl rfl (v_gr (t := 37) rfl rfl rfl (Nat.le_of_ble_eq_true rfl) rfl (q_iload_n rfl rfl (v_cv rfl rfl rfl rfl (Nat.le_of_ble_eq_true rfl) ⟨⟨rfl, rfl⟩, Nat.le_of_ble_eq_true rfl, rfl⟩ (Nat.le_of_ble_eq_true rfl) (Nat.le_of_ble_eq_true rfl) (s_51 (a1 := a1) hI (.inl ⟨rfl, rfl⟩) (show 0 ≤ a1 ∧ a1 ≤ 5 from ⟨by first | exact q_720657ba9 h_2 | (clear ha1 ha2 h_1 h_6 h_10 h_14 h_23 h_18; omega) | omega, by first | exact q_3a2e67ab0 h_1 h_6 | (clear ha1 ha2 h_2 h_10 h_14 h_23 h_18; omega) | omega⟩) (fun y_24 hy_24 => (bk_inl (q_iret rfl rfl ?_))))))))
            exact K c y_24 hI (fun a j hm => rfl) hy_24
          by_cases h_25 : a2 = 6
          · skip
            refine v_tsw_i (t := 62) 6 rfl (by omega) (by decide) rfl (by decide) (q_aload_n rfl rfl (v_gr (t := 37) rfl rfl rfl (Nat.le_of_ble_eq_true rfl) rfl (q_iload_n rfl rfl (v_cv rfl rfl rfl rfl (Nat.le_of_ble_eq_true rfl) ⟨⟨rfl, rfl⟩, Nat.le_of_ble_eq_true rfl, rfl⟩ (Nat.le_of_ble_eq_true rfl) (Nat.le_of_ble_eq_true rfl) (s_68 (a1 := a1) hI (.inl ⟨rfl, rfl⟩) (show 0 ≤ a1 ∧ a1 ≤ 5 from ⟨by first | exact q_720657ba9 h_2 | (clear ha1 ha2 h_1 h_6 h_10 h_14 h_25 h_18 h_23; omega) | omega, by first | exact q_3a2e67ab0 h_1 h_6 | (clear ha1 ha2 h_2 h_10 h_14 h_25 h_18 h_23; omega) | omega⟩) (fun y_26 hy_26 => (bk_inl (q_iret rfl rfl ?_))))))))
            exact K c y_26 hI (fun a j hm => rfl) hy_26
          refine v_tsw_o (t := 71) rfl (by omega) (by decide) (q_aload_n rfl rfl (v_gr (t := 37) rfl rfl rfl (Nat.le_of_ble_eq_true rfl) rfl (q_iload_n rfl rfl (q_iload_n rfl rfl ?_))))
          have h_27 := ir_38_g hI (j := 4 * a1 + a2) (by omega)
          refine v_cv rfl rfl rfl rfl (Nat.le_of_ble_eq_true rfl) ⟨⟨rfl, rfl⟩, Nat.le_of_ble_eq_true rfl, rfl⟩ (Nat.le_of_ble_eq_true rfl) (Nat.le_of_ble_eq_true rfl) (s_45 (v1 := c 38 (4 * a1 + a2)) (r := c 38 (4 * a1 + a2)) (a1 := a1) (a2 := a2) hI (.inl ⟨rfl, rfl⟩) (show 0 ≤ a1 ∧ a1 ≤ 5 from ⟨by first | exact q_720657ba9 h_2 | (clear ha1 ha2 h_1 h_6 h_10 h_14 h_18 h_23 h_25; omega) | omega, by first | exact q_3a2e67ab0 h_1 h_6 | (clear ha1 ha2 h_2 h_10 h_14 h_18 h_23 h_25; omega) | omega⟩) (show 0 ≤ a2 ∧ a2 ≤ 3 from ⟨by first | exact q_720657ba9 h_10 | (clear ha1 ha2 h_1 h_2 h_6 h_14 h_18 h_23 h_25; omega) | omega, by omega⟩) (rfl) (by omega) (bk_inl (q_iret rfl rfl ?_)))
          exact K c (c 38 (4 * a1 + a2)) hI (fun a j hm => rfl) ⟨(Int.le_trans (by decide) h_27.1), (Int.le_trans h_27.2 (by decide))⟩

set_option maxRecDepth 100000 in
set_option maxHeartbeats 4000000 in
theorem s_95 {sc : List Int32} {e : Int} {d u P Q : Nat} {c : ME} {a1 : Int} {a2 : Int} {Z : AR → Prop} (hI : Iv u e P Q c) (ha1 : (-2147483648) ≤ a1 ∧ a1 ≤ 2147483647) (ha2 : (-2147483648) ≤ a2 ∧ a2 ≤ 2147483647) (T100 : ∀ c2 : ME, Iv u e P Q c2 → (∀ (a : Nat) (j : Int), ¬ ((a = 0 ∧ j = 12) ∨ (a = 0 ∧ j = 13)) → c2 a j = c a j) → Z (.inr 100, Wd P Q P P c2, 1, 6)) (T101 : ∀ c2 : ME, Iv u e P Q c2 → (∀ (a : Nat) (j : Int), ¬ ((a = 0 ∧ j = 12) ∨ (a = 0 ∧ j = 13)) → c2 a j = c a j) → Z (.inr 101, Wd P Q P P c2, 1, 6)) (K : ∀ (c2 : ME) (y : Int), Iv u e P Q c2 → (∀ (a : Nat) (j : Int), ¬ ((a = 0 ∧ j = 12) ∨ (a = 0 ∧ j = 13)) → c2 a j = c a j) → (-2147483648) ≤ y ∧ y ≤ 2147483647 → Z (.inl (some (vi y)), Wd P Q P P c2, 0, 0)) : Wp sc (d + 9) 95 0 [(0, .ref 0), (1, vi a1), (2, vi a2)] [] (Wd P Q P P c) 0 0 Z := by
  have hP := iv_P hI
  have hQ := iv_Q hI
  refine q_aload_n rfl rfl (q_iload_n rfl rfl (v_cv rfl rfl rfl rfl (Nat.le_of_ble_eq_true rfl) ⟨⟨rfl, rfl⟩, Nat.le_of_ble_eq_true rfl, rfl⟩ (Nat.le_of_ble_eq_true rfl) (Nat.le_of_ble_eq_true rfl) (q_aload_n rfl rfl (q_iload_n rfl rfl (q_iconst rfl (q_aload_n rfl rfl (v_gr (t := P) rfl rfl rfl (Nat.le_of_ble_eq_true rfl) rfl ?_)))))))
  have h_1 := ir_p0_1 hI hP
  refine v_gi (z := 1) (v := c P 1) rfl rfl (ck_p0 hP) (a68z hP) rfl rfl rfl (q_iconst rfl (v_isub (v := c P 1 - 1) rfl rfl (q_call rfl rfl rfl rfl (q_iload_n rfl rfl (q_iload_n rfl rfl ?_)))))
  by_cases h_2 : a1 < 0
  · refine v_ic_lt_t (t := 14) rfl rfl ⟨ha1.1, h_2, by decide⟩ (q_iconst rfl (v_zret rfl rfl (by decide) (bk_inl (v_cv rfl rfl rfl rfl (Nat.le_of_ble_eq_true rfl) ⟨⟨rfl, rfl⟩, Nat.le_of_ble_eq_true rfl, rfl⟩ (Nat.le_of_ble_eq_true rfl) (Nat.le_of_ble_eq_true rfl) (q_iload_n rfl rfl (v_if_ne_f (t := 25) rfl rfl (by decide) (q_aload_n rfl rfl ?_)))))))
    refine q_dup rfl rfl ?_
    have h_3 := ir_0_12 hI
    refine v_gi (z := 12) (v := c 0 12) rfl rfl rfl (Nat.le_of_ble_eq_true rfl) rfl rfl rfl (q_iconst rfl (v_iadd (v := c 0 12 + 1) rfl rfl (v_nrm (fun y_4 hy_4 => (v_pi (z := 12) rfl rfl rfl (Nat.le_of_ble_eq_true rfl) rfl rfl rfl (by decide) (v_new rfl rfl (by decide) (by omega) (Nat.le_of_ble_eq_true rfl) (by decide) rfl (bk_out rfl rfl (bk_out rfl rfl ?_))))))))
    have hI_5 := iw_0_12 (v := y_4) hI ⟨hy_4.1, hy_4.2⟩
    exact T100 _ hI_5 (fun a j hm => up_b (Decidable.or_iff_not_imp_left.mpr (fun h1 h2 => hm (Or.inl ⟨Decidable.not_not.mp h1, h2⟩))))
  · refine v_ic_lt_f (t := 14) rfl rfl ⟨by decide, (Int.not_lt.mp h_2), ha1.2⟩ (q_iload_n rfl rfl (q_iload_n rfl rfl ?_))
    by_cases h_6 : a1 > c P 1 - 1
    · refine v_ic_gt_t (t := 14) rfl rfl ⟨by first | exact rgm_l h_1.1 (by decide) | omega, h_6, ha1.2⟩ (q_iconst rfl (v_zret rfl rfl (by decide) (bk_inl (v_cv rfl rfl rfl rfl (Nat.le_of_ble_eq_true rfl) ⟨⟨rfl, rfl⟩, Nat.le_of_ble_eq_true rfl, rfl⟩ (Nat.le_of_ble_eq_true rfl) (Nat.le_of_ble_eq_true rfl) (q_iload_n rfl rfl (v_if_ne_f (t := 25) rfl rfl (by decide) (q_aload_n rfl rfl ?_)))))))
      refine q_dup rfl rfl ?_
      have h_7 := ir_0_12 hI
      refine v_gi (z := 12) (v := c 0 12) rfl rfl rfl (Nat.le_of_ble_eq_true rfl) rfl rfl rfl (q_iconst rfl (v_iadd (v := c 0 12 + 1) rfl rfl (v_nrm (fun y_8 hy_8 => (v_pi (z := 12) rfl rfl rfl (Nat.le_of_ble_eq_true rfl) rfl rfl rfl (by decide) (v_new rfl rfl (by decide) (by omega) (Nat.le_of_ble_eq_true rfl) (by decide) rfl (bk_out rfl rfl (bk_out rfl rfl ?_))))))))
      have hI_9 := iw_0_12 (v := y_8) hI ⟨hy_8.1, hy_8.2⟩
      exact T100 _ hI_9 (fun a j hm => up_b (Decidable.or_iff_not_imp_left.mpr (fun h1 h2 => hm (Or.inl ⟨Decidable.not_not.mp h1, h2⟩))))
    · refine v_ic_gt_f (t := 14) rfl rfl ⟨ha1.1, (Int.not_lt.mp h_6), by first | exact rgm_h h_1.2 (by decide) | omega⟩ (q_iconst rfl (q_goto (t := 15) rfl rfl (v_zret rfl rfl (by decide) (bk_inl (v_cv rfl rfl rfl rfl (Nat.le_of_ble_eq_true rfl) ⟨⟨rfl, rfl⟩, Nat.le_of_ble_eq_true rfl, rfl⟩ (Nat.le_of_ble_eq_true rfl) (Nat.le_of_ble_eq_true rfl) (q_iload_n rfl rfl (v_if_ne_t (t := 25) rfl rfl (by decide) ?_)))))))
      refine q_vret rfl rfl (bk_inl (q_vret rfl rfl (bk_inl (q_aload_n rfl rfl (q_iload_n rfl rfl (q_iconst rfl (q_iconst rfl ?_)))))))
      refine q_call rfl rfl rfl rfl (q_iload_n rfl rfl (q_iload_n rfl rfl ?_))
      by_cases h_10 : a2 < 0
      · refine v_ic_lt_t (t := 14) rfl rfl ⟨ha2.1, h_10, by decide⟩ (q_iconst rfl (v_zret rfl rfl (by decide) (bk_inl (v_cv rfl rfl rfl rfl (Nat.le_of_ble_eq_true rfl) ⟨⟨rfl, rfl⟩, Nat.le_of_ble_eq_true rfl, rfl⟩ (Nat.le_of_ble_eq_true rfl) (Nat.le_of_ble_eq_true rfl) (q_iload_n rfl rfl (v_if_ne_f (t := 25) rfl rfl (by decide) (q_aload_n rfl rfl ?_)))))))
        refine q_dup rfl rfl ?_
        have h_11 := ir_0_13 hI
        refine v_gi (z := 13) (v := c 0 13) rfl rfl rfl (Nat.le_of_ble_eq_true rfl) rfl rfl rfl (q_iconst rfl (v_iadd (v := c 0 13 + 1) rfl rfl (v_nrm (fun y_12 hy_12 => (v_pi (z := 13) rfl rfl rfl (Nat.le_of_ble_eq_true rfl) rfl rfl rfl (by decide) (v_new rfl rfl (by decide) (by omega) (Nat.le_of_ble_eq_true rfl) (by decide) rfl (bk_out rfl rfl ?_)))))))
        have hI_13 := iw_0_13 (v := y_12) hI ⟨hy_12.1, hy_12.2⟩
        exact T101 _ hI_13 (fun a j hm => up_b (Decidable.or_iff_not_imp_left.mpr (fun h1 h2 => hm (Or.inr ⟨Decidable.not_not.mp h1, h2⟩))))
      · refine v_ic_lt_f (t := 14) rfl rfl ⟨by decide, (Int.not_lt.mp h_10), ha2.2⟩ (q_iload_n rfl rfl (q_iload_n rfl rfl ?_))
        by_cases h_14 : a2 > 2
        · refine v_ic_gt_t (t := 14) rfl rfl ⟨by decide, h_14, ha2.2⟩ (q_iconst rfl (v_zret rfl rfl (by decide) (bk_inl (v_cv rfl rfl rfl rfl (Nat.le_of_ble_eq_true rfl) ⟨⟨rfl, rfl⟩, Nat.le_of_ble_eq_true rfl, rfl⟩ (Nat.le_of_ble_eq_true rfl) (Nat.le_of_ble_eq_true rfl) (q_iload_n rfl rfl (v_if_ne_f (t := 25) rfl rfl (by decide) (q_aload_n rfl rfl ?_)))))))
          refine q_dup rfl rfl ?_
          have h_15 := ir_0_13 hI
          refine v_gi (z := 13) (v := c 0 13) rfl rfl rfl (Nat.le_of_ble_eq_true rfl) rfl rfl rfl (q_iconst rfl (v_iadd (v := c 0 13 + 1) rfl rfl (v_nrm (fun y_16 hy_16 => (v_pi (z := 13) rfl rfl rfl (Nat.le_of_ble_eq_true rfl) rfl rfl rfl (by decide) (v_new rfl rfl (by decide) (by omega) (Nat.le_of_ble_eq_true rfl) (by decide) rfl (bk_out rfl rfl ?_)))))))
          have hI_17 := iw_0_13 (v := y_16) hI ⟨hy_16.1, hy_16.2⟩
          exact T101 _ hI_17 (fun a j hm => up_b (Decidable.or_iff_not_imp_left.mpr (fun h1 h2 => hm (Or.inr ⟨Decidable.not_not.mp h1, h2⟩))))
        · refine v_ic_gt_f (t := 14) rfl rfl ⟨ha2.1, (Int.not_lt.mp h_14), by decide⟩ (q_iconst rfl (q_goto (t := 15) rfl rfl (v_zret rfl rfl (by decide) (bk_inl (v_cv rfl rfl rfl rfl (Nat.le_of_ble_eq_true rfl) ⟨⟨rfl, rfl⟩, Nat.le_of_ble_eq_true rfl, rfl⟩ (Nat.le_of_ble_eq_true rfl) (Nat.le_of_ble_eq_true rfl) (q_iload_n rfl rfl (v_if_ne_t (t := 25) rfl rfl (by decide) ?_)))))))
          refine q_vret rfl rfl (bk_inl (q_aload_n rfl rfl (v_gr (t := P) rfl rfl rfl (Nat.le_of_ble_eq_true rfl) rfl (q_iload_n rfl rfl (q_iload_n rfl rfl (v_cv rfl rfl rfl (ck_p0 hP) (a68z hP) ⟨⟨rfl, rfl⟩, by decide, rfl⟩ (Nat.le_of_ble_eq_true rfl) (Nat.le_of_ble_eq_true rfl) (s_29 (a1 := a1) (a2 := a2) hI hP (show 0 ≤ a1 ∧ a1 ≤ 3 from ⟨by first | exact q_720657ba9 h_2 | omega, by first | exact q_1b5e4f74b h_1 h_6 | omega⟩) (show 0 ≤ a2 ∧ a2 ≤ 2 from ⟨by first | exact q_720657ba9 h_10 | omega, by first | exact q_e9525d7af h_14 | omega⟩) (fun y_18 hy_18 => (bk_inl ?_)))))))))
          refine q_iret rfl rfl ?_
          exact K c y_18 hI (fun a j hm => rfl) ⟨(Int.le_trans (by decide) hy_18.1), (Int.le_trans hy_18.2 (by decide))⟩

set_option maxRecDepth 100000 in
set_option maxHeartbeats 4000000 in
theorem s_97 {sc : List Int32} {e : Int} {d u P Q : Nat} {c : ME} {a1 : Int} {a2 : Int} {Z : AR → Prop} (hI : Iv u e P Q c) (ha1 : (-2147483648) ≤ a1 ∧ a1 ≤ 2147483647) (ha2 : (-2147483648) ≤ a2 ∧ a2 ≤ 2147483647) (T100 : ∀ c2 : ME, Iv u e P Q c2 → (∀ (a : Nat) (j : Int), ¬ ((a = 0 ∧ j = 12) ∨ (a = 0 ∧ j = 13)) → c2 a j = c a j) → Z (.inr 100, Wd P Q P P c2, 1, 6)) (T101 : ∀ c2 : ME, Iv u e P Q c2 → (∀ (a : Nat) (j : Int), ¬ ((a = 0 ∧ j = 12) ∨ (a = 0 ∧ j = 13)) → c2 a j = c a j) → Z (.inr 101, Wd P Q P P c2, 1, 6)) (K : ∀ (c2 : ME) (y : Int), Iv u e P Q c2 → (∀ (a : Nat) (j : Int), ¬ ((a = 0 ∧ j = 12) ∨ (a = 0 ∧ j = 13)) → c2 a j = c a j) → (-2147483648) ≤ y ∧ y ≤ 2147483647 → Z (.inl (some (vi y)), Wd P Q P P c2, 0, 0)) : Wp sc (d + 9) 97 0 [(0, .ref 0), (1, vi a1), (2, vi a2)] [] (Wd P Q P P c) 0 0 Z := by
  have hP := iv_P hI
  have hQ := iv_Q hI
  refine q_aload_n rfl rfl (q_iload_n rfl rfl (v_cv rfl rfl rfl rfl (Nat.le_of_ble_eq_true rfl) ⟨⟨rfl, rfl⟩, Nat.le_of_ble_eq_true rfl, rfl⟩ (Nat.le_of_ble_eq_true rfl) (Nat.le_of_ble_eq_true rfl) (q_aload_n rfl rfl (q_iload_n rfl rfl (q_iconst rfl (q_aload_n rfl rfl (v_gr (t := P) rfl rfl rfl (Nat.le_of_ble_eq_true rfl) rfl ?_)))))))
  have h_1 := ir_p0_2 hI hP
  refine v_gi (z := 2) (v := c P 2) rfl rfl (ck_p0 hP) (a68z hP) rfl rfl rfl (q_iconst rfl (v_isub (v := c P 2 - 1) rfl rfl (q_call rfl rfl rfl rfl (q_iload_n rfl rfl (q_iload_n rfl rfl ?_)))))
  by_cases h_2 : a1 < 0
  · refine v_ic_lt_t (t := 14) rfl rfl ⟨ha1.1, h_2, by decide⟩ (q_iconst rfl (v_zret rfl rfl (by decide) (bk_inl (v_cv rfl rfl rfl rfl (Nat.le_of_ble_eq_true rfl) ⟨⟨rfl, rfl⟩, Nat.le_of_ble_eq_true rfl, rfl⟩ (Nat.le_of_ble_eq_true rfl) (Nat.le_of_ble_eq_true rfl) (q_iload_n rfl rfl (v_if_ne_f (t := 25) rfl rfl (by decide) (q_aload_n rfl rfl ?_)))))))
    refine q_dup rfl rfl ?_
    have h_3 := ir_0_12 hI
    refine v_gi (z := 12) (v := c 0 12) rfl rfl rfl (Nat.le_of_ble_eq_true rfl) rfl rfl rfl (q_iconst rfl (v_iadd (v := c 0 12 + 1) rfl rfl (v_nrm (fun y_4 hy_4 => (v_pi (z := 12) rfl rfl rfl (Nat.le_of_ble_eq_true rfl) rfl rfl rfl (by decide) (v_new rfl rfl (by decide) (by omega) (Nat.le_of_ble_eq_true rfl) (by decide) rfl (bk_out rfl rfl (bk_out rfl rfl ?_))))))))
    have hI_5 := iw_0_12 (v := y_4) hI ⟨hy_4.1, hy_4.2⟩
    exact T100 _ hI_5 (fun a j hm => up_b (Decidable.or_iff_not_imp_left.mpr (fun h1 h2 => hm (Or.inl ⟨Decidable.not_not.mp h1, h2⟩))))
  · refine v_ic_lt_f (t := 14) rfl rfl ⟨by decide, (Int.not_lt.mp h_2), ha1.2⟩ (q_iload_n rfl rfl (q_iload_n rfl rfl ?_))
    by_cases h_6 : a1 > c P 2 - 1
    · refine v_ic_gt_t (t := 14) rfl rfl ⟨by first | exact rgm_l h_1.1 (by decide) | omega, h_6, ha1.2⟩ (q_iconst rfl (v_zret rfl rfl (by decide) (bk_inl (v_cv rfl rfl rfl rfl (Nat.le_of_ble_eq_true rfl) ⟨⟨rfl, rfl⟩, Nat.le_of_ble_eq_true rfl, rfl⟩ (Nat.le_of_ble_eq_true rfl) (Nat.le_of_ble_eq_true rfl) (q_iload_n rfl rfl (v_if_ne_f (t := 25) rfl rfl (by decide) (q_aload_n rfl rfl ?_)))))))
      refine q_dup rfl rfl ?_
      have h_7 := ir_0_12 hI
      refine v_gi (z := 12) (v := c 0 12) rfl rfl rfl (Nat.le_of_ble_eq_true rfl) rfl rfl rfl (q_iconst rfl (v_iadd (v := c 0 12 + 1) rfl rfl (v_nrm (fun y_8 hy_8 => (v_pi (z := 12) rfl rfl rfl (Nat.le_of_ble_eq_true rfl) rfl rfl rfl (by decide) (v_new rfl rfl (by decide) (by omega) (Nat.le_of_ble_eq_true rfl) (by decide) rfl (bk_out rfl rfl (bk_out rfl rfl ?_))))))))
      have hI_9 := iw_0_12 (v := y_8) hI ⟨hy_8.1, hy_8.2⟩
      exact T100 _ hI_9 (fun a j hm => up_b (Decidable.or_iff_not_imp_left.mpr (fun h1 h2 => hm (Or.inl ⟨Decidable.not_not.mp h1, h2⟩))))
    · refine v_ic_gt_f (t := 14) rfl rfl ⟨ha1.1, (Int.not_lt.mp h_6), by first | exact rgm_h h_1.2 (by decide) | omega⟩ (q_iconst rfl (q_goto (t := 15) rfl rfl (v_zret rfl rfl (by decide) (bk_inl (v_cv rfl rfl rfl rfl (Nat.le_of_ble_eq_true rfl) ⟨⟨rfl, rfl⟩, Nat.le_of_ble_eq_true rfl, rfl⟩ (Nat.le_of_ble_eq_true rfl) (Nat.le_of_ble_eq_true rfl) (q_iload_n rfl rfl (v_if_ne_t (t := 25) rfl rfl (by decide) ?_)))))))
      refine q_vret rfl rfl (bk_inl (q_vret rfl rfl (bk_inl (q_aload_n rfl rfl (q_iload_n rfl rfl (q_iconst rfl (q_iconst rfl ?_)))))))
      refine q_call rfl rfl rfl rfl (q_iload_n rfl rfl (q_iload_n rfl rfl ?_))
      by_cases h_10 : a2 < 0
      · refine v_ic_lt_t (t := 14) rfl rfl ⟨ha2.1, h_10, by decide⟩ (q_iconst rfl (v_zret rfl rfl (by decide) (bk_inl (v_cv rfl rfl rfl rfl (Nat.le_of_ble_eq_true rfl) ⟨⟨rfl, rfl⟩, Nat.le_of_ble_eq_true rfl, rfl⟩ (Nat.le_of_ble_eq_true rfl) (Nat.le_of_ble_eq_true rfl) (q_iload_n rfl rfl (v_if_ne_f (t := 25) rfl rfl (by decide) (q_aload_n rfl rfl ?_)))))))
        refine q_dup rfl rfl ?_
        have h_11 := ir_0_13 hI
        refine v_gi (z := 13) (v := c 0 13) rfl rfl rfl (Nat.le_of_ble_eq_true rfl) rfl rfl rfl (q_iconst rfl (v_iadd (v := c 0 13 + 1) rfl rfl (v_nrm (fun y_12 hy_12 => (v_pi (z := 13) rfl rfl rfl (Nat.le_of_ble_eq_true rfl) rfl rfl rfl (by decide) (v_new rfl rfl (by decide) (by omega) (Nat.le_of_ble_eq_true rfl) (by decide) rfl (bk_out rfl rfl ?_)))))))
        have hI_13 := iw_0_13 (v := y_12) hI ⟨hy_12.1, hy_12.2⟩
        exact T101 _ hI_13 (fun a j hm => up_b (Decidable.or_iff_not_imp_left.mpr (fun h1 h2 => hm (Or.inr ⟨Decidable.not_not.mp h1, h2⟩))))
      · refine v_ic_lt_f (t := 14) rfl rfl ⟨by decide, (Int.not_lt.mp h_10), ha2.2⟩ (q_iload_n rfl rfl (q_iload_n rfl rfl ?_))
        by_cases h_14 : a2 > 1
        · refine v_ic_gt_t (t := 14) rfl rfl ⟨by decide, h_14, ha2.2⟩ (q_iconst rfl (v_zret rfl rfl (by decide) (bk_inl (v_cv rfl rfl rfl rfl (Nat.le_of_ble_eq_true rfl) ⟨⟨rfl, rfl⟩, Nat.le_of_ble_eq_true rfl, rfl⟩ (Nat.le_of_ble_eq_true rfl) (Nat.le_of_ble_eq_true rfl) (q_iload_n rfl rfl (v_if_ne_f (t := 25) rfl rfl (by decide) (q_aload_n rfl rfl ?_)))))))
          refine q_dup rfl rfl ?_
          have h_15 := ir_0_13 hI
          refine v_gi (z := 13) (v := c 0 13) rfl rfl rfl (Nat.le_of_ble_eq_true rfl) rfl rfl rfl (q_iconst rfl (v_iadd (v := c 0 13 + 1) rfl rfl (v_nrm (fun y_16 hy_16 => (v_pi (z := 13) rfl rfl rfl (Nat.le_of_ble_eq_true rfl) rfl rfl rfl (by decide) (v_new rfl rfl (by decide) (by omega) (Nat.le_of_ble_eq_true rfl) (by decide) rfl (bk_out rfl rfl ?_)))))))
          have hI_17 := iw_0_13 (v := y_16) hI ⟨hy_16.1, hy_16.2⟩
          exact T101 _ hI_17 (fun a j hm => up_b (Decidable.or_iff_not_imp_left.mpr (fun h1 h2 => hm (Or.inr ⟨Decidable.not_not.mp h1, h2⟩))))
        · refine v_ic_gt_f (t := 14) rfl rfl ⟨ha2.1, (Int.not_lt.mp h_14), by decide⟩ (q_iconst rfl (q_goto (t := 15) rfl rfl (v_zret rfl rfl (by decide) (bk_inl (v_cv rfl rfl rfl rfl (Nat.le_of_ble_eq_true rfl) ⟨⟨rfl, rfl⟩, Nat.le_of_ble_eq_true rfl, rfl⟩ (Nat.le_of_ble_eq_true rfl) (Nat.le_of_ble_eq_true rfl) (q_iload_n rfl rfl (v_if_ne_t (t := 25) rfl rfl (by decide) ?_)))))))
          refine q_vret rfl rfl (bk_inl (q_iload_n rfl rfl ?_))
          by_cases h_18 : a2 ≠ 0
          · refine v_if_ne_t (t := 29) rfl rfl ⟨h_18, ⟨ha2.1, ha2.2⟩, by decide, by decide⟩ (q_aload_n rfl rfl (v_gr (t := 37) rfl rfl rfl (Nat.le_of_ble_eq_true rfl) rfl (q_iload_n rfl rfl ?_)))
            have h_19 := ir_38 hI 30
            have h_20 := tb_rng (c 38 30) a1
            refine v_cv rfl rfl rfl rfl (Nat.le_of_ble_eq_true rfl) ⟨⟨rfl, rfl⟩, Nat.le_of_ble_eq_true rfl, rfl⟩ (Nat.le_of_ble_eq_true rfl) (Nat.le_of_ble_eq_true rfl) (s_46 (v1 := c 38 30) (r := (tb (c 38 30) a1)) (a1 := a1) hI (.inl ⟨rfl, rfl⟩) (show 0 ≤ a1 ∧ a1 ≤ 3 from ⟨by first | exact q_720657ba9 h_2 | (clear ha1 ha2 h_1 h_6 h_10 h_14 h_18; omega) | omega, by first | exact q_1b5e4f74b h_1 h_6 | (clear ha1 ha2 h_2 h_10 h_14 h_18; omega) | omega⟩) (rfl) rfl (bk_inl ?_))
            by_cases h_21 : (tb (c 38 30) a1) = 0
            · refine v_if_eq_t (t := 44) rfl rfl h_21 (q_iconst rfl (q_iret rfl rfl ?_))
              exact K c 0 hI (fun a j hm => rfl) ⟨by decide, by decide⟩
            · refine v_if_eq_f (t := 44) rfl rfl ⟨h_21, ⟨by first | (clear ha1 ha2 h_1 h_2 h_6 h_10 h_14 h_19 h_18; omega) | omega, by first | (clear ha1 ha2 h_1 h_2 h_6 h_10 h_14 h_19 h_18; omega) | omega⟩, by decide, by decide⟩ (q_iconst rfl (q_goto (t := 45) rfl rfl (q_iret rfl rfl ?_)))
              exact K c 1 hI (fun a j hm => rfl) ⟨by decide, by decide⟩
          · refine v_if_ne_f (t := 29) rfl rfl (Decidable.not_not.mp h_18) (q_aload_n rfl rfl (v_gr (t := P) rfl rfl rfl (Nat.le_of_ble_eq_true rfl) rfl (v_gr (t := (P + 3)) rfl rfl (ck_p0 hP) (a68z hP) rfl (q_iload_n rfl rfl ?_))))
            have h_22 := ir_p3 hI hP a1
            refine v_ia (v := c (P + 3) a1) rfl (ck_p3 hP) (a68 hP rfl) (by decide) ⟨by first | exact q_720657ba9 h_2 | omega, by first | exact q_0435250f0 h_1 h_6 | omega⟩ rfl (q_iret rfl rfl ?_)
            exact K c (c (P + 3) a1) hI (fun a j hm => rfl) ⟨(Int.le_trans (by decide) h_22.1), (Int.le_trans h_22.2 (by decide))⟩

set_option maxRecDepth 100000 in
set_option maxHeartbeats 4000000 in
theorem s_98 {sc : List Int32} {e : Int} {d u P Q : Nat} {c : ME} {a1 : Int} {Z : AR → Prop} (hI : Iv u e P Q c) (ha1 : (-2147483648) ≤ a1 ∧ a1 ≤ 2147483647) (T100 : ∀ c2 : ME, Iv u e P Q c2 → (∀ (a : Nat) (j : Int), ¬ ((a = 0 ∧ j = 12)) → c2 a j = c a j) → Z (.inr 100, Wd P Q P P c2, 1, 6)) (K : ∀ (c2 : ME) (y : Int), Iv u e P Q c2 → (∀ (a : Nat) (j : Int), ¬ ((a = 0 ∧ j = 12)) → c2 a j = c a j) → (-2147483648) ≤ y ∧ y ≤ 2147483647 → Z (.inl (some (vi y)), Wd P Q P P c2, 0, 0)) : Wp sc (d + 9) 98 0 [(0, .ref 0), (1, vi a1)] [] (Wd P Q P P c) 0 0 Z := by
  have hP := iv_P hI
  have hQ := iv_Q hI
  refine q_aload_n rfl rfl (q_iload_n rfl rfl (v_cv rfl rfl rfl rfl (Nat.le_of_ble_eq_true rfl) ⟨⟨rfl, rfl⟩, Nat.le_of_ble_eq_true rfl, rfl⟩ (Nat.le_of_ble_eq_true rfl) (Nat.le_of_ble_eq_true rfl) (q_aload_n rfl rfl (q_iload_n rfl rfl (q_iconst rfl (q_aload_n rfl rfl (v_gr (t := P) rfl rfl rfl (Nat.le_of_ble_eq_true rfl) rfl ?_)))))))
  have h_1 := ir_p0_0 hI hP
  refine v_gi (z := 0) (v := c P 0) rfl rfl (ck_p0 hP) (a68z hP) rfl rfl rfl (q_iconst rfl (v_isub (v := c P 0 - 1) rfl rfl (q_call rfl rfl rfl rfl (q_iload_n rfl rfl (q_iload_n rfl rfl ?_)))))
  by_cases h_2 : a1 < 0
  · refine v_ic_lt_t (t := 14) rfl rfl ⟨ha1.1, h_2, by decide⟩ (q_iconst rfl (v_zret rfl rfl (by decide) (bk_inl (v_cv rfl rfl rfl rfl (Nat.le_of_ble_eq_true rfl) ⟨⟨rfl, rfl⟩, Nat.le_of_ble_eq_true rfl, rfl⟩ (Nat.le_of_ble_eq_true rfl) (Nat.le_of_ble_eq_true rfl) (q_iload_n rfl rfl (v_if_ne_f (t := 25) rfl rfl (by decide) (q_aload_n rfl rfl ?_)))))))
    refine q_dup rfl rfl ?_
    have h_3 := ir_0_12 hI
    refine v_gi (z := 12) (v := c 0 12) rfl rfl rfl (Nat.le_of_ble_eq_true rfl) rfl rfl rfl (q_iconst rfl (v_iadd (v := c 0 12 + 1) rfl rfl (v_nrm (fun y_4 hy_4 => (v_pi (z := 12) rfl rfl rfl (Nat.le_of_ble_eq_true rfl) rfl rfl rfl (by decide) (v_new rfl rfl (by decide) (by omega) (Nat.le_of_ble_eq_true rfl) (by decide) rfl (bk_out rfl rfl (bk_out rfl rfl ?_))))))))
    have hI_5 := iw_0_12 (v := y_4) hI ⟨hy_4.1, hy_4.2⟩
    exact T100 _ hI_5 (fun a j hm => up_b (Decidable.or_iff_not_imp_left.mpr (fun h1 h2 => hm ⟨Decidable.not_not.mp h1, h2⟩)))
  · refine v_ic_lt_f (t := 14) rfl rfl ⟨by decide, (Int.not_lt.mp h_2), ha1.2⟩ (q_iload_n rfl rfl (q_iload_n rfl rfl ?_))
    by_cases h_6 : a1 > c P 0 - 1
    · refine v_ic_gt_t (t := 14) rfl rfl ⟨by first | exact rgm_l h_1.1 (by decide) | omega, h_6, ha1.2⟩ (q_iconst rfl (v_zret rfl rfl (by decide) (bk_inl (v_cv rfl rfl rfl rfl (Nat.le_of_ble_eq_true rfl) ⟨⟨rfl, rfl⟩, Nat.le_of_ble_eq_true rfl, rfl⟩ (Nat.le_of_ble_eq_true rfl) (Nat.le_of_ble_eq_true rfl) (q_iload_n rfl rfl (v_if_ne_f (t := 25) rfl rfl (by decide) (q_aload_n rfl rfl ?_)))))))
      refine q_dup rfl rfl ?_
      have h_7 := ir_0_12 hI
      refine v_gi (z := 12) (v := c 0 12) rfl rfl rfl (Nat.le_of_ble_eq_true rfl) rfl rfl rfl (q_iconst rfl (v_iadd (v := c 0 12 + 1) rfl rfl (v_nrm (fun y_8 hy_8 => (v_pi (z := 12) rfl rfl rfl (Nat.le_of_ble_eq_true rfl) rfl rfl rfl (by decide) (v_new rfl rfl (by decide) (by omega) (Nat.le_of_ble_eq_true rfl) (by decide) rfl (bk_out rfl rfl (bk_out rfl rfl ?_))))))))
      have hI_9 := iw_0_12 (v := y_8) hI ⟨hy_8.1, hy_8.2⟩
      exact T100 _ hI_9 (fun a j hm => up_b (Decidable.or_iff_not_imp_left.mpr (fun h1 h2 => hm ⟨Decidable.not_not.mp h1, h2⟩)))
    · refine v_ic_gt_f (t := 14) rfl rfl ⟨ha1.1, (Int.not_lt.mp h_6), by first | exact rgm_h h_1.2 (by decide) | omega⟩ (q_iconst rfl (q_goto (t := 15) rfl rfl (v_zret rfl rfl (by decide) (bk_inl (v_cv rfl rfl rfl rfl (Nat.le_of_ble_eq_true rfl) ⟨⟨rfl, rfl⟩, Nat.le_of_ble_eq_true rfl, rfl⟩ (Nat.le_of_ble_eq_true rfl) (Nat.le_of_ble_eq_true rfl) (q_iload_n rfl rfl (v_if_ne_t (t := 25) rfl rfl (by decide) ?_)))))))
      refine q_vret rfl rfl (bk_inl (q_vret rfl rfl (bk_inl (v_sip rfl (by decide) (q_aload_n rfl rfl (v_gr (t := 37) rfl rfl rfl (Nat.le_of_ble_eq_true rfl) rfl (q_iload_n rfl rfl ?_)))))))
      have h_10 := ir_38_g hI (j := 4 * a1) (by first | exact q_b0d0e4535 h_1 h_6 | omega)
      have h_11 := ir_38_g hI (j := 4 * a1 + 1) (by first | exact q_e3354e5e9 h_1 h_6 | omega)
      have h_12 := ir_38_g hI (j := 4 * a1 + 2) (by first | exact q_0a5347bcd h_1 h_6 | omega)
      have h_13 := ir_38_g hI (j := 4 * a1 + 3) (by first | exact q_9939b3b7f h_1 h_6 | omega)
      refine v_cv rfl rfl rfl rfl (Nat.le_of_ble_eq_true rfl) ⟨⟨rfl, rfl⟩, Nat.le_of_ble_eq_true rfl, rfl⟩ (Nat.le_of_ble_eq_true rfl) (Nat.le_of_ble_eq_true rfl) (s_43 (v1 := c 38 (4 * a1)) (v2 := c 38 (4 * a1 + 1)) (v3 := c 38 (4 * a1 + 2)) (v4 := c 38 (4 * a1 + 3)) (r := c 38 (4 * a1 + 1) + c 38 (4 * a1 + 2) + c 38 (4 * a1 + 3) + c 38 (4 * a1)) (a1 := a1) hI (.inl ⟨rfl, rfl⟩) (show 0 ≤ a1 ∧ a1 ≤ 5 from ⟨by first | exact q_720657ba9 h_2 | omega, by first | exact q_3a2e67ab0 h_1 h_6 | omega⟩) (rfl) (rfl) (rfl) (rfl) (by omega) (bk_inl (v_isub (v := 9999 - c 38 (4 * a1 + 1) - c 38 (4 * a1 + 2) - c 38 (4 * a1 + 3) - c 38 (4 * a1)) rfl (by omega) (q_iret rfl rfl ?_))))
      exact K c (9999 - c 38 (4 * a1 + 1) - c 38 (4 * a1 + 2) - c 38 (4 * a1 + 3) - c 38 (4 * a1)) hI (fun a j hm => rfl) ⟨by first | exact q_fb5727b6a h_10 h_11 h_12 h_13 | omega, by first | exact q_033ec8ac9 h_10 h_11 h_12 h_13 | omega⟩

set_option maxRecDepth 100000 in
set_option maxHeartbeats 4000000 in
theorem s_99_l {sc : List Int32} {e : Int} {d u P Q : Nat} {c : ME} {a1 : Int} {Z : AR → Prop} (hI : Iv u e P Q c) (ha1 : (-2147483648) ≤ a1 ∧ a1 ≤ 2147483647) (T101 : ∀ c2 : ME, Iv u e P Q c2 → (∀ (a : Nat) (j : Int), ¬ ((a = 0 ∧ j = 13)) → c2 a j = c a j) → Z (.inr 101, Wd P Q P P c2, 1, 6)) (K : ∀ (c2 : ME) (y : Int), Iv u e P Q c2 → (∀ (a : Nat) (j : Int), ¬ ((a = 0 ∧ j = 13)) → c2 a j = c a j) → (-2147483648) ≤ y ∧ y ≤ 2147483647 → Z (.inl (some (vi y)), Wd P Q P P c2, 0, 0)) : ∀ n : Nat, (∀ (c2 : ME) (v2 : Int) (v3 : Int), Iv u e P Q c2 → (∀ (a : Nat) (j : Int), ¬ ((a = 0 ∧ j = 13)) → c2 a j = c a j) → (-1) ≤ v2 ∧ v2 ≤ 5 → 0 ≤ v3 ∧ v3 ≤ 6 → 13 - 2 * v3 < (n : Int) → Wp sc (d + 8) 99 14 [(0, .ref 0), (1, vi a1), (2, vi v2), (3, vi v3)] [] (Wd P Q P P c2) 0 0 Z)
  | 0 => by intro c2 v2 v3 hI2 hF hv2 hv3 hm9; have hP := iv_P hI; have hQ := iv_Q hI; exfalso; omega
  | n + 1 => by
    have hP := iv_P hI
    have hQ := iv_Q hI
    have ih := s_99_l (sc := sc) (d := d) hI ha1 T101 K n
    intro c2 v2 v3 hI2 hF hv2 hv3 hm9
    refine q_iload_n rfl rfl (q_aload_n rfl rfl (v_gr (t := P) rfl rfl rfl (Nat.le_of_ble_eq_true rfl) rfl ?_))
    have h_1 := ir_p0_0 hI hP
    have kn_2 : Hid (c2 P 0 = c P 0) := hF P 0 (fun h => absurd h.1 (np0 hP rfl))
    refine v_gi (z := 0) (v := c P 0) rfl rfl (ck_p0 hP) (a68z hP) rfl rfl (hid kn_2) ?_
    by_cases h_3 : v3 ≥ c P 0
    · refine v_ic_ge_t (t := 68) rfl rfl ⟨by first | exact q_730ab5169 h_1 | omega, h_3, (Int.le_trans hv3.2 (by decide))⟩ (q_iload_n rfl rfl ?_)
      by_cases h_4 : a1 = 0
      · refine v_if_eq_t (t := 77) rfl rfl h_4 (q_iload_n rfl rfl (q_goto (t := 89) rfl rfl (q_iret rfl rfl ?_)))
        exact K c2 v2 hI2 (fun a j hm => hF a j (fun h => hm h)) ⟨(Int.le_trans (by decide) hv2.1), (Int.le_trans hv2.2 (by decide))⟩
      · refine v_if_eq_f (t := 77) rfl rfl ⟨h_4, ⟨ha1.1, ha1.2⟩, by decide, by decide⟩ (q_iload_n rfl rfl (q_iconst rfl ?_))
        by_cases h_5 : v2 ≠ (-1)
        · refine v_ic_ne_t (t := 81) rfl rfl ⟨h_5, ⟨(Int.le_trans (by decide) hv2.1), (Int.le_trans hv2.2 (by decide))⟩, by decide, by decide⟩ (q_aload_n rfl rfl (v_gr (t := 37) rfl rfl rfl (Nat.le_of_ble_eq_true rfl) rfl (q_iload_n rfl rfl (v_cv rfl rfl rfl rfl (Nat.le_of_ble_eq_true rfl) ⟨⟨rfl, rfl⟩, Nat.le_of_ble_eq_true rfl, rfl⟩ (Nat.le_of_ble_eq_true rfl) (Nat.le_of_ble_eq_true rfl) (s_51 (a1 := v2) hI2 (.inl ⟨rfl, rfl⟩) (show 0 ≤ v2 ∧ v2 ≤ 5 from ⟨by first | exact q_8754394d5 h_5 hv2 | (clear ha1 hv3 h_1 h_3 h_4; omega) | omega, hv2.2⟩) (fun y_6 hy_6 => (bk_inl (q_iret rfl rfl ?_))))))))
          exact K c2 y_6 hI2 (fun a j hm => hF a j (fun h => hm h)) hy_6
        · refine v_ic_ne_f (t := 81) rfl rfl (Decidable.not_not.mp h_5) (q_iload_n rfl rfl (q_goto (t := 89) rfl rfl (q_iret rfl rfl ?_)))
          exact K c2 v2 hI2 (fun a j hm => hF a j (fun h => hm h)) ⟨(Int.le_trans (by decide) hv2.1), (Int.le_trans hv2.2 (by decide))⟩
    · refine v_ic_ge_f (t := 68) rfl rfl ⟨(Int.le_trans (by decide) hv3.1), (Int.not_le.mp h_3), by first | exact q_b289b7db2 h_1 | omega⟩ (q_aload_n rfl rfl (v_gr (t := 37) rfl rfl rfl (Nat.le_of_ble_eq_true rfl) rfl (q_iload_n rfl rfl ?_)))
      have h_7 := ir_38_g hI (j := 4 * v3) (by first | exact q_aa51b186e h_1 h_3 | omega)
      have kn_8 : Hid (c2 38 (4 * v3) = c 38 (4 * v3)) := hF 38 (4 * v3) (fun h => absurd h.1 (nn rfl))
      have h_9 := ir_38_g hI (j := 4 * v3 + 1) (by first | exact q_57851f9de h_1 h_3 | omega)
      have kn_10 : Hid (c2 38 (4 * v3 + 1) = c 38 (4 * v3 + 1)) := hF 38 (4 * v3 + 1) (fun h => absurd h.1 (nn rfl))
      have h_11 := ir_38_g hI (j := 4 * v3 + 2) (by first | exact q_7296e74e6 h_1 h_3 | omega)
      have kn_12 : Hid (c2 38 (4 * v3 + 2) = c 38 (4 * v3 + 2)) := hF 38 (4 * v3 + 2) (fun h => absurd h.1 (nn rfl))
      have h_13 := ir_38_g hI (j := 4 * v3 + 3) (by first | exact q_b15525c4c h_1 h_3 | omega)
      have kn_14 : Hid (c2 38 (4 * v3 + 3) = c 38 (4 * v3 + 3)) := hF 38 (4 * v3 + 3) (fun h => absurd h.1 (nn rfl))
      refine v_cv rfl rfl rfl rfl (Nat.le_of_ble_eq_true rfl) ⟨⟨rfl, rfl⟩, Nat.le_of_ble_eq_true rfl, rfl⟩ (Nat.le_of_ble_eq_true rfl) (Nat.le_of_ble_eq_true rfl) (s_43 (v1 := c 38 (4 * v3)) (v2 := c 38 (4 * v3 + 1)) (v3 := c 38 (4 * v3 + 2)) (v4 := c 38 (4 * v3 + 3)) (r := c 38 (4 * v3 + 1) + c 38 (4 * v3 + 2) + c 38 (4 * v3 + 3) + c 38 (4 * v3)) (a1 := v3) hI2 (.inl ⟨rfl, rfl⟩) (show 0 ≤ v3 ∧ v3 ≤ 5 from ⟨hv3.1, by first | exact q_d63a8538e h_1 h_3 | omega⟩) ((hid kn_8)) ((hid kn_10)) ((hid kn_12)) ((hid kn_14)) (by omega) (bk_inl ?_))
      by_cases h_15 : c 38 (4 * v3 + 1) + c 38 (4 * v3 + 2) + c 38 (4 * v3 + 3) + c 38 (4 * v3) ≤ 0
      · refine v_if_le_t (t := 62) rfl rfl ⟨by first | exact q_df6958c12 h_11 h_13 h_7 h_9 | omega, h_15, by decide⟩ (v_iinc (v := v3 + 1) rfl rfl (Nat.le_of_ble_eq_true rfl) rfl (q_goto (t := 14) rfl rfl (Wp_ls [(0, .ref 0), (1, vi a1), (2, vi v2), (3, vi (v3 + 1))] (lsub_cons rfl (lsub_cons rfl (lsub_cons rfl (lsub_cons rfl lsub_nil)))) ?_)))
        exact ih c2 v2 (v3 + 1) hI2 (fun a j hm => hF a j (fun h => hm h)) hv2 ⟨by first | exact rgp_l hv3.1 (by decide) | omega, by first | exact q_4a76cd9c7 h_1 h_3 | omega⟩ (by omega)
      · refine v_if_le_f (t := 62) rfl rfl ⟨by decide, (Int.not_le.mp h_15), by first | exact q_e2451768c h_11 h_13 h_7 h_9 | omega⟩ (q_iload_n rfl rfl (q_iconst rfl ?_))
        by_cases h_16 : v2 = (-1)
        · refine v_ic_eq_t (t := 60) rfl rfl h_16 (q_iload_n rfl rfl (q_istore_n rfl (Nat.le_of_ble_eq_true rfl) (v_iinc (v := v3 + 1) rfl rfl (Nat.le_of_ble_eq_true rfl) rfl (q_goto (t := 14) rfl rfl (Wp_ls [(0, .ref 0), (1, vi a1), (2, vi v3), (3, vi (v3 + 1))] (lsub_cons rfl (lsub_cons rfl (lsub_cons rfl (lsub_cons rfl lsub_nil)))) ?_)))))
          exact ih c2 v3 (v3 + 1) hI2 (fun a j hm => hF a j (fun h => hm h)) ⟨(Int.le_trans (by decide) hv3.1), by first | exact q_d63a8538e h_1 h_3 | omega⟩ ⟨by first | exact rgp_l hv3.1 (by decide) | omega, by first | exact q_4a76cd9c7 h_1 h_3 | omega⟩ (by omega)
        · refine v_ic_eq_f (t := 60) rfl rfl ⟨h_16, ⟨(Int.le_trans (by decide) hv2.1), (Int.le_trans hv2.2 (by decide))⟩, by decide, by decide⟩ (q_aload_n rfl rfl (v_gr (t := 37) rfl rfl rfl (Nat.le_of_ble_eq_true rfl) rfl (q_iload_n rfl rfl (v_cv rfl rfl rfl rfl (Nat.le_of_ble_eq_true rfl) ⟨⟨rfl, rfl⟩, Nat.le_of_ble_eq_true rfl, rfl⟩ (Nat.le_of_ble_eq_true rfl) (Nat.le_of_ble_eq_true rfl) (s_51 (a1 := v3) hI2 (.inl ⟨rfl, rfl⟩) (show 0 ≤ v3 ∧ v3 ≤ 5 from ⟨hv3.1, by first | exact q_d63a8538e h_1 h_3 | (clear ha1 hv2 hv3 h_7 h_9 h_11 h_13 h_15 h_16; omega) | omega⟩) (fun y_17 hy_17 => (bk_inl (q_aload_n rfl rfl (v_gr (t := 37) rfl rfl rfl (Nat.le_of_ble_eq_true rfl) rfl ?_)))))))))
          refine q_iload_n rfl rfl (v_cv rfl rfl rfl rfl (Nat.le_of_ble_eq_true rfl) ⟨⟨rfl, rfl⟩, Nat.le_of_ble_eq_true rfl, rfl⟩ (Nat.le_of_ble_eq_true rfl) (Nat.le_of_ble_eq_true rfl) (s_51 (a1 := v2) hI2 (.inl ⟨rfl, rfl⟩) (show 0 ≤ v2 ∧ v2 ≤ 5 from ⟨by first | exact q_a0327fb45 h_16 hv2 | omega, hv2.2⟩) (fun y_18 hy_18 => (bk_inl ?_))))
          by_cases h_19 : y_17 ≤ y_18
          · refine v_ic_le_t (t := 62) rfl rfl ⟨hy_17.1, h_19, hy_18.2⟩ (v_iinc (v := v3 + 1) rfl rfl (Nat.le_of_ble_eq_true rfl) rfl (q_goto (t := 14) rfl rfl (Wp_ls [(0, .ref 0), (1, vi a1), (2, vi v2), (3, vi (v3 + 1))] (lsub_cons rfl (lsub_cons rfl (lsub_cons rfl (lsub_cons rfl lsub_nil)))) ?_)))
            exact ih c2 v2 (v3 + 1) hI2 (fun a j hm => hF a j (fun h => hm h)) hv2 ⟨by first | exact rgp_l hv3.1 (by decide) | omega, by first | exact q_4a76cd9c7 h_1 h_3 | (clear ha1 hv2 hv3 h_7 h_9 h_11 h_13 h_15 h_19 h_16; omega) | omega⟩ (by omega)
          · refine v_ic_le_f (t := 62) rfl rfl ⟨hy_18.1, (Int.not_le.mp h_19), hy_17.2⟩ (q_iload_n rfl rfl (q_istore_n rfl (Nat.le_of_ble_eq_true rfl) (v_iinc (v := v3 + 1) rfl rfl (Nat.le_of_ble_eq_true rfl) rfl (q_goto (t := 14) rfl rfl (Wp_ls [(0, .ref 0), (1, vi a1), (2, vi v3), (3, vi (v3 + 1))] (lsub_cons rfl (lsub_cons rfl (lsub_cons rfl (lsub_cons rfl lsub_nil)))) ?_)))))
            exact ih c2 v3 (v3 + 1) hI2 (fun a j hm => hF a j (fun h => hm h)) ⟨(Int.le_trans (by decide) hv3.1), by first | exact q_d63a8538e h_1 h_3 | (clear ha1 hv2 hv3 h_7 h_9 h_11 h_13 h_15 h_19 h_16; omega) | omega⟩ ⟨by first | exact rgp_l hv3.1 (by decide) | omega, by first | exact q_4a76cd9c7 h_1 h_3 | (clear ha1 hv2 hv3 h_7 h_9 h_11 h_13 h_15 h_19 h_16; omega) | omega⟩ (by omega)
set_option maxRecDepth 100000 in
set_option maxHeartbeats 4000000 in
theorem s_99 {sc : List Int32} {e : Int} {d u P Q : Nat} {c : ME} {a1 : Int} {Z : AR → Prop} (hI : Iv u e P Q c) (ha1 : (-2147483648) ≤ a1 ∧ a1 ≤ 2147483647) (T101 : ∀ c2 : ME, Iv u e P Q c2 → (∀ (a : Nat) (j : Int), ¬ ((a = 0 ∧ j = 13)) → c2 a j = c a j) → Z (.inr 101, Wd P Q P P c2, 1, 6)) (K : ∀ (c2 : ME) (y : Int), Iv u e P Q c2 → (∀ (a : Nat) (j : Int), ¬ ((a = 0 ∧ j = 13)) → c2 a j = c a j) → (-2147483648) ≤ y ∧ y ≤ 2147483647 → Z (.inl (some (vi y)), Wd P Q P P c2, 0, 0)) : Wp sc (d + 8) 99 0 [(0, .ref 0), (1, vi a1)] [] (Wd P Q P P c) 0 0 Z := by
  have hP := iv_P hI
  have hQ := iv_Q hI
  refine q_aload_n rfl rfl (q_iload_n rfl rfl (q_iconst rfl (q_iconst rfl (q_call rfl rfl rfl rfl (q_iload_n rfl rfl (q_iload_n rfl rfl ?_))))))
  by_cases h_20 : a1 < 0
  · refine v_ic_lt_t (t := 14) rfl rfl ⟨ha1.1, h_20, by decide⟩ (q_iconst rfl (v_zret rfl rfl (by decide) (bk_inl (v_cv rfl rfl rfl rfl (Nat.le_of_ble_eq_true rfl) ⟨⟨rfl, rfl⟩, Nat.le_of_ble_eq_true rfl, rfl⟩ (Nat.le_of_ble_eq_true rfl) (Nat.le_of_ble_eq_true rfl) (q_iload_n rfl rfl (v_if_ne_f (t := 25) rfl rfl (by decide) (q_aload_n rfl rfl ?_)))))))
    refine q_dup rfl rfl ?_
    have h_21 := ir_0_13 hI
    refine v_gi (z := 13) (v := c 0 13) rfl rfl rfl (Nat.le_of_ble_eq_true rfl) rfl rfl rfl (q_iconst rfl (v_iadd (v := c 0 13 + 1) rfl rfl (v_nrm (fun y_22 hy_22 => (v_pi (z := 13) rfl rfl rfl (Nat.le_of_ble_eq_true rfl) rfl rfl rfl (by decide) (v_new rfl rfl (by decide) (by omega) (Nat.le_of_ble_eq_true rfl) (by decide) rfl (bk_out rfl rfl ?_)))))))
    have hI_23 := iw_0_13 (v := y_22) hI ⟨hy_22.1, hy_22.2⟩
    exact T101 _ hI_23 (fun a j hm => up_b (Decidable.or_iff_not_imp_left.mpr (fun h1 h2 => hm ⟨Decidable.not_not.mp h1, h2⟩)))
  · refine v_ic_lt_f (t := 14) rfl rfl ⟨by decide, (Int.not_lt.mp h_20), ha1.2⟩ (q_iload_n rfl rfl (q_iload_n rfl rfl ?_))
    by_cases h_24 : a1 > 1
    · refine v_ic_gt_t (t := 14) rfl rfl ⟨by decide, h_24, ha1.2⟩ (q_iconst rfl (v_zret rfl rfl (by decide) (bk_inl (v_cv rfl rfl rfl rfl (Nat.le_of_ble_eq_true rfl) ⟨⟨rfl, rfl⟩, Nat.le_of_ble_eq_true rfl, rfl⟩ (Nat.le_of_ble_eq_true rfl) (Nat.le_of_ble_eq_true rfl) (q_iload_n rfl rfl (v_if_ne_f (t := 25) rfl rfl (by decide) (q_aload_n rfl rfl ?_)))))))
      refine q_dup rfl rfl ?_
      have h_25 := ir_0_13 hI
      refine v_gi (z := 13) (v := c 0 13) rfl rfl rfl (Nat.le_of_ble_eq_true rfl) rfl rfl rfl (q_iconst rfl (v_iadd (v := c 0 13 + 1) rfl rfl (v_nrm (fun y_26 hy_26 => (v_pi (z := 13) rfl rfl rfl (Nat.le_of_ble_eq_true rfl) rfl rfl rfl (by decide) (v_new rfl rfl (by decide) (by omega) (Nat.le_of_ble_eq_true rfl) (by decide) rfl (bk_out rfl rfl ?_)))))))
      have hI_27 := iw_0_13 (v := y_26) hI ⟨hy_26.1, hy_26.2⟩
      exact T101 _ hI_27 (fun a j hm => up_b (Decidable.or_iff_not_imp_left.mpr (fun h1 h2 => hm ⟨Decidable.not_not.mp h1, h2⟩)))
    · refine v_ic_gt_f (t := 14) rfl rfl ⟨ha1.1, (Int.not_lt.mp h_24), by decide⟩ (q_iconst rfl (q_goto (t := 15) rfl rfl (v_zret rfl rfl (by decide) (bk_inl (v_cv rfl rfl rfl rfl (Nat.le_of_ble_eq_true rfl) ⟨⟨rfl, rfl⟩, Nat.le_of_ble_eq_true rfl, rfl⟩ (Nat.le_of_ble_eq_true rfl) (Nat.le_of_ble_eq_true rfl) (q_iload_n rfl rfl (v_if_ne_t (t := 25) rfl rfl (by decide) ?_)))))))
      refine q_vret rfl rfl (bk_inl (q_iconst rfl (q_istore_n rfl (Nat.le_of_ble_eq_true rfl) (q_iconst rfl (q_istore_n rfl (Nat.le_of_ble_eq_true rfl) (Wp_ls [(0, .ref 0), (1, vi a1), (2, vi (-1)), (3, vi 0)] (lsub_cons rfl (lsub_cons rfl (lsub_cons rfl (lsub_cons rfl lsub_nil)))) ?_))))))
      exact (s_99_l (sc := sc) (d := d) hI ha1 T101 K 16) c (-1) 0 hI (fun a j hm => rfl) ⟨by decide, by decide⟩ ⟨by decide, by decide⟩ (by omega)

set_option maxRecDepth 100000 in
set_option maxHeartbeats 4000000 in
theorem s_100_l {sc : List Int32} {e : Int} {d u P Q : Nat} {c : ME} {a1 : Int} {a2 : Int} {Z : AR → Prop} (hI : Iv u e P Q c) (ha1 : (-2147483648) ≤ a1 ∧ a1 ≤ 2147483647) (ha2 : (-2147483648) ≤ a2 ∧ a2 ≤ 2147483647) (T101 : ∀ c2 : ME, Iv u e P Q c2 → (∀ (a : Nat) (j : Int), ¬ ((a = 0 ∧ j = 13)) → c2 a j = c a j) → Z (.inr 101, Wd P Q P P c2, 1, 6)) (K : ∀ (c2 : ME) (y : Int), Iv u e P Q c2 → (∀ (a : Nat) (j : Int), ¬ ((a = 0 ∧ j = 13)) → c2 a j = c a j) → (-2147483648) ≤ y ∧ y ≤ 2147483647 → Z (.inl (some (vi y)), Wd P Q P P c2, 0, 0)) : ∀ n : Nat, (∀ (c2 : ME) (v3 : Int) (v4 : Int) (v5 : Int) (v6 : Int), Iv u e P Q c2 → (∀ (a : Nat) (j : Int), ¬ ((a = 0 ∧ j = 13)) → c2 a j = c a j) → (-2147483648) ≤ v3 ∧ v3 ≤ 2147483647 → (-1) ≤ v4 ∧ v4 ≤ 5 → 0 ≤ v5 ∧ v5 ≤ 9999 → 0 ≤ v6 ∧ v6 ≤ 6 → ((a1 ≥ 0 ∧ a1 ≤ 3)) → 13 - 2 * v6 < (n : Int) → Wp sc (d + 8) 100 38 [(0, .ref 0), (1, vi a1), (2, vi a2), (3, vi v3), (4, vi v4), (5, vi v5), (6, vi v6)] [] (Wd P Q P P c2) 0 0 Z)
  | 0 => by intro c2 v3 v4 v5 v6 hI2 hF hv3 hv4 hv5 hv6 hx0 hm9; have hP := iv_P hI; have hQ := iv_Q hI; exfalso; omega
  | n + 1 => by
    have hP := iv_P hI
    have hQ := iv_Q hI
    have ih := s_100_l (sc := sc) (d := d) hI ha1 ha2 T101 K n
    intro c2 v3 v4 v5 v6 hI2 hF hv3 hv4 hv5 hv6 hx0 hm9
    refine q_iload rfl rfl (q_aload_n rfl rfl (v_gr (t := P) rfl rfl rfl (Nat.le_of_ble_eq_true rfl) rfl ?_))
    have h_1 := ir_p0_0 hI hP
    have kn_2 : Hid (c2 P 0 = c P 0) := hF P 0 (fun h => absurd h.1 (np0 hP rfl))
    refine v_gi (z := 0) (v := c P 0) rfl rfl (ck_p0 hP) (a68z hP) rfl rfl (hid kn_2) ?_
    by_cases h_3 : v6 ≥ c P 0
    · refine v_ic_ge_t (t := 88) rfl rfl ⟨by first | exact q_730ab5169 h_1 | omega, h_3, (Int.le_trans hv6.2 (by decide))⟩ (q_iload_n rfl rfl ?_)
      by_cases h_4 : a2 ≠ 0
      · refine v_if_ne_t (t := 96) rfl rfl ⟨h_4, ⟨ha2.1, ha2.2⟩, by decide, by decide⟩ (q_iload rfl rfl (q_iret rfl rfl ?_))
        exact K c2 v4 hI2 (fun a j hm => hF a j (fun h => hm h)) ⟨(Int.le_trans (by decide) hv4.1), (Int.le_trans hv4.2 (by decide))⟩
      · refine v_if_ne_f (t := 96) rfl rfl (Decidable.not_not.mp h_4) (q_iload_n rfl rfl (q_goto (t := 98) rfl rfl (q_iret rfl rfl ?_)))
        exact K c2 v3 hI2 (fun a j hm => hF a j (fun h => hm h)) hv3
    · refine v_ic_ge_f (t := 88) rfl rfl ⟨(Int.le_trans (by decide) hv6.1), (Int.not_le.mp h_3), by first | exact q_b289b7db2 h_1 | omega⟩ (q_aload_n rfl rfl (v_gr (t := 37) rfl rfl rfl (Nat.le_of_ble_eq_true rfl) rfl (q_iload rfl rfl (q_iload_n rfl rfl ?_))))
      have h_5 := ir_38_g hI (j := a1 + 4 * v6) (by omega)
      have kn_6 : Hid (c2 38 (a1 + 4 * v6) = c 38 (a1 + 4 * v6)) := hF 38 (a1 + 4 * v6) (fun h => absurd h.1 (nn rfl))
      refine v_cv rfl rfl rfl rfl (Nat.le_of_ble_eq_true rfl) ⟨⟨rfl, rfl⟩, Nat.le_of_ble_eq_true rfl, rfl⟩ (Nat.le_of_ble_eq_true rfl) (Nat.le_of_ble_eq_true rfl) (s_45 (v1 := c 38 (a1 + 4 * v6)) (r := c 38 (a1 + 4 * v6)) (a1 := v6) (a2 := a1) hI2 (.inl ⟨rfl, rfl⟩) (show 0 ≤ v6 ∧ v6 ≤ 5 from ⟨hv6.1, by first | exact q_d63a8538e h_1 h_3 | omega⟩) (show 0 ≤ a1 ∧ a1 ≤ 3 from ⟨by omega, by omega⟩) ((congrArg (c2 38) (show 4 * v6 + a1 = a1 + 4 * v6 from by first | exact q_e870fe981 | omega)).trans (hid kn_6)) (by omega) (bk_inl (q_istore rfl (Nat.le_of_ble_eq_true rfl) (q_iload_n rfl rfl (q_iload rfl rfl (v_iadd (v := c 38 (a1 + 4 * v6) + v3) rfl (by omega) (v_nrm (fun y_7 hy_7 => (q_istore_n rfl (Nat.le_of_ble_eq_true rfl) ?_)))))))))
      refine q_iload rfl rfl (q_iload rfl rfl ?_)
      by_cases h_8 : c 38 (a1 + 4 * v6) ≤ v5
      · refine v_ic_le_t (t := 82) rfl rfl ⟨by first | exact q_c4d6b60d6 h_5 | omega, h_8, (Int.le_trans hv5.2 (by decide))⟩ (v_iinc (v := v6 + 1) rfl rfl (Nat.le_of_ble_eq_true rfl) rfl (q_goto (t := 38) rfl rfl (Wp_ls [(0, .ref 0), (1, vi a1), (2, vi a2), (3, vi y_7), (4, vi v4), (5, vi v5), (6, vi (v6 + 1))] (lsub_cons rfl (lsub_cons rfl (lsub_cons rfl (lsub_cons rfl (lsub_cons rfl (lsub_cons rfl (lsub_cons rfl lsub_nil))))))) ?_)))
        exact ih c2 y_7 v4 v5 (v6 + 1) hI2 (fun a j hm => hF a j (fun h => hm h)) hy_7 hv4 hv5 ⟨by first | exact rgp_l hv6.1 (by decide) | omega, by first | exact q_4a76cd9c7 h_1 h_3 | omega⟩ ⟨by omega, by omega⟩ (by omega)
      · refine v_ic_le_f (t := 82) rfl rfl ⟨(Int.le_trans (by decide) hv5.1), (Int.not_le.mp h_8), by first | exact q_838dca997 h_5 | omega⟩ (q_iload rfl rfl (q_istore rfl (Nat.le_of_ble_eq_true rfl) (q_iload rfl rfl (q_istore rfl (Nat.le_of_ble_eq_true rfl) (v_iinc (v := v6 + 1) rfl rfl (Nat.le_of_ble_eq_true rfl) rfl (Wp_ls [(6, vi (v6 + 1)), (4, vi v6), (5, vi (c 38 (a1 + 4 * v6))), (3, vi y_7), (7, vi (c 38 (a1 + 4 * v6))), (0, .ref 0), (1, vi a1), (2, vi a2)] (lsub_cons rfl (lsub_cons rfl (lsub_cons rfl (lsub_cons rfl (lsub_cons rfl (lsub_cons rfl (lsub_cons rfl (lsub_cons rfl lsub_nil)))))))) (q_goto (t := 38) rfl rfl ?_)))))))
        refine Wp_ls [(0, .ref 0), (1, vi a1), (2, vi a2), (3, vi y_7), (4, vi v6), (5, vi (c 38 (a1 + 4 * v6))), (6, vi (v6 + 1))] (lsub_cons rfl (lsub_cons rfl (lsub_cons rfl (lsub_cons rfl (lsub_cons rfl (lsub_cons rfl (lsub_cons rfl lsub_nil))))))) ?_
        exact ih c2 y_7 v6 (c 38 (a1 + 4 * v6)) (v6 + 1) hI2 (fun a j hm => hF a j (fun h => hm h)) hy_7 ⟨(Int.le_trans (by decide) hv6.1), by first | exact q_d63a8538e h_1 h_3 | omega⟩ ⟨by first | exact q_52c13326e h_8 hv5 | omega, by first | exact q_f52da7857 h_5 | omega⟩ ⟨by first | exact rgp_l hv6.1 (by decide) | omega, by first | exact q_4a76cd9c7 h_1 h_3 | omega⟩ ⟨by omega, by omega⟩ (by omega)
set_option maxRecDepth 100000 in
set_option maxHeartbeats 4000000 in
theorem s_100 {sc : List Int32} {e : Int} {d u P Q : Nat} {c : ME} {a1 : Int} {a2 : Int} {Z : AR → Prop} (hI : Iv u e P Q c) (ha1 : (-2147483648) ≤ a1 ∧ a1 ≤ 2147483647) (ha2 : (-2147483648) ≤ a2 ∧ a2 ≤ 2147483647) (T101 : ∀ c2 : ME, Iv u e P Q c2 → (∀ (a : Nat) (j : Int), ¬ ((a = 0 ∧ j = 13)) → c2 a j = c a j) → Z (.inr 101, Wd P Q P P c2, 1, 6)) (K : ∀ (c2 : ME) (y : Int), Iv u e P Q c2 → (∀ (a : Nat) (j : Int), ¬ ((a = 0 ∧ j = 13)) → c2 a j = c a j) → (-2147483648) ≤ y ∧ y ≤ 2147483647 → Z (.inl (some (vi y)), Wd P Q P P c2, 0, 0)) : Wp sc (d + 8) 100 0 [(0, .ref 0), (1, vi a1), (2, vi a2)] [] (Wd P Q P P c) 0 0 Z := by
  have hP := iv_P hI
  have hQ := iv_Q hI
  refine q_aload_n rfl rfl (q_iload_n rfl rfl (q_iconst rfl (q_iconst rfl (q_call rfl rfl rfl rfl (q_iload_n rfl rfl (q_iload_n rfl rfl ?_))))))
  by_cases h_9 : a1 < 0
  · refine v_ic_lt_t (t := 14) rfl rfl ⟨ha1.1, h_9, by decide⟩ (q_iconst rfl (v_zret rfl rfl (by decide) (bk_inl (v_if_eq_t (t := 23) rfl rfl (by decide) (q_iconst rfl (v_cv rfl rfl rfl rfl (Nat.le_of_ble_eq_true rfl) ⟨⟨rfl, rfl⟩, Nat.le_of_ble_eq_true rfl, rfl⟩ (Nat.le_of_ble_eq_true rfl) (Nat.le_of_ble_eq_true rfl) (q_iload_n rfl rfl ?_)))))))
    refine v_if_ne_f (t := 25) rfl rfl (by decide) (q_aload_n rfl rfl (q_dup rfl rfl ?_))
    have h_10 := ir_0_13 hI
    refine v_gi (z := 13) (v := c 0 13) rfl rfl rfl (Nat.le_of_ble_eq_true rfl) rfl rfl rfl (q_iconst rfl (v_iadd (v := c 0 13 + 1) rfl rfl (v_nrm (fun y_11 hy_11 => (v_pi (z := 13) rfl rfl rfl (Nat.le_of_ble_eq_true rfl) rfl rfl rfl (by decide) (v_new rfl rfl (by decide) (by omega) (Nat.le_of_ble_eq_true rfl) (by decide) rfl (bk_out rfl rfl ?_)))))))
    have hI_12 := iw_0_13 (v := y_11) hI ⟨hy_11.1, hy_11.2⟩
    exact T101 _ hI_12 (fun a j hm => up_b (Decidable.or_iff_not_imp_left.mpr (fun h1 h2 => hm ⟨Decidable.not_not.mp h1, h2⟩)))
  · refine v_ic_lt_f (t := 14) rfl rfl ⟨by decide, (Int.not_lt.mp h_9), ha1.2⟩ (q_iload_n rfl rfl (q_iload_n rfl rfl ?_))
    by_cases h_13 : a1 > 3
    · refine v_ic_gt_t (t := 14) rfl rfl ⟨by decide, h_13, ha1.2⟩ (q_iconst rfl (v_zret rfl rfl (by decide) (bk_inl (v_if_eq_t (t := 23) rfl rfl (by decide) (q_iconst rfl (v_cv rfl rfl rfl rfl (Nat.le_of_ble_eq_true rfl) ⟨⟨rfl, rfl⟩, Nat.le_of_ble_eq_true rfl, rfl⟩ (Nat.le_of_ble_eq_true rfl) (Nat.le_of_ble_eq_true rfl) (q_iload_n rfl rfl ?_)))))))
      refine v_if_ne_f (t := 25) rfl rfl (by decide) (q_aload_n rfl rfl (q_dup rfl rfl ?_))
      have h_14 := ir_0_13 hI
      refine v_gi (z := 13) (v := c 0 13) rfl rfl rfl (Nat.le_of_ble_eq_true rfl) rfl rfl rfl (q_iconst rfl (v_iadd (v := c 0 13 + 1) rfl rfl (v_nrm (fun y_15 hy_15 => (v_pi (z := 13) rfl rfl rfl (Nat.le_of_ble_eq_true rfl) rfl rfl rfl (by decide) (v_new rfl rfl (by decide) (by omega) (Nat.le_of_ble_eq_true rfl) (by decide) rfl (bk_out rfl rfl ?_)))))))
      have hI_16 := iw_0_13 (v := y_15) hI ⟨hy_15.1, hy_15.2⟩
      exact T101 _ hI_16 (fun a j hm => up_b (Decidable.or_iff_not_imp_left.mpr (fun h1 h2 => hm ⟨Decidable.not_not.mp h1, h2⟩)))
    · refine v_ic_gt_f (t := 14) rfl rfl ⟨ha1.1, (Int.not_lt.mp h_13), by decide⟩ (q_iconst rfl (q_goto (t := 15) rfl rfl (v_zret rfl rfl (by decide) (bk_inl (v_if_eq_f (t := 23) rfl rfl (by decide) (q_iload_n rfl rfl (q_iconst rfl ?_)))))))
      refine q_iconst rfl (q_call rfl rfl rfl rfl (q_iload_n rfl rfl (q_iload_n rfl rfl ?_)))
      by_cases h_17 : a2 < 0
      · refine v_ic_lt_t (t := 14) rfl rfl ⟨ha2.1, h_17, by decide⟩ (q_iconst rfl (v_zret rfl rfl (by decide) (bk_inl (v_if_eq_t (t := 23) rfl rfl (by decide) (q_iconst rfl (v_cv rfl rfl rfl rfl (Nat.le_of_ble_eq_true rfl) ⟨⟨rfl, rfl⟩, Nat.le_of_ble_eq_true rfl, rfl⟩ (Nat.le_of_ble_eq_true rfl) (Nat.le_of_ble_eq_true rfl) (q_iload_n rfl rfl ?_)))))))
        refine v_if_ne_f (t := 25) rfl rfl (by decide) (q_aload_n rfl rfl (q_dup rfl rfl ?_))
        have h_18 := ir_0_13 hI
        refine v_gi (z := 13) (v := c 0 13) rfl rfl rfl (Nat.le_of_ble_eq_true rfl) rfl rfl rfl (q_iconst rfl (v_iadd (v := c 0 13 + 1) rfl rfl (v_nrm (fun y_19 hy_19 => (v_pi (z := 13) rfl rfl rfl (Nat.le_of_ble_eq_true rfl) rfl rfl rfl (by decide) (v_new rfl rfl (by decide) (by omega) (Nat.le_of_ble_eq_true rfl) (by decide) rfl (bk_out rfl rfl ?_)))))))
        have hI_20 := iw_0_13 (v := y_19) hI ⟨hy_19.1, hy_19.2⟩
        exact T101 _ hI_20 (fun a j hm => up_b (Decidable.or_iff_not_imp_left.mpr (fun h1 h2 => hm ⟨Decidable.not_not.mp h1, h2⟩)))
      · refine v_ic_lt_f (t := 14) rfl rfl ⟨by decide, (Int.not_lt.mp h_17), ha2.2⟩ (q_iload_n rfl rfl (q_iload_n rfl rfl ?_))
        by_cases h_21 : a2 > 1
        · refine v_ic_gt_t (t := 14) rfl rfl ⟨by decide, h_21, ha2.2⟩ (q_iconst rfl (v_zret rfl rfl (by decide) (bk_inl (v_if_eq_t (t := 23) rfl rfl (by decide) (q_iconst rfl (v_cv rfl rfl rfl rfl (Nat.le_of_ble_eq_true rfl) ⟨⟨rfl, rfl⟩, Nat.le_of_ble_eq_true rfl, rfl⟩ (Nat.le_of_ble_eq_true rfl) (Nat.le_of_ble_eq_true rfl) (q_iload_n rfl rfl ?_)))))))
          refine v_if_ne_f (t := 25) rfl rfl (by decide) (q_aload_n rfl rfl (q_dup rfl rfl ?_))
          have h_22 := ir_0_13 hI
          refine v_gi (z := 13) (v := c 0 13) rfl rfl rfl (Nat.le_of_ble_eq_true rfl) rfl rfl rfl (q_iconst rfl (v_iadd (v := c 0 13 + 1) rfl rfl (v_nrm (fun y_23 hy_23 => (v_pi (z := 13) rfl rfl rfl (Nat.le_of_ble_eq_true rfl) rfl rfl rfl (by decide) (v_new rfl rfl (by decide) (by omega) (Nat.le_of_ble_eq_true rfl) (by decide) rfl (bk_out rfl rfl ?_)))))))
          have hI_24 := iw_0_13 (v := y_23) hI ⟨hy_23.1, hy_23.2⟩
          exact T101 _ hI_24 (fun a j hm => up_b (Decidable.or_iff_not_imp_left.mpr (fun h1 h2 => hm ⟨Decidable.not_not.mp h1, h2⟩)))
        · refine v_ic_gt_f (t := 14) rfl rfl ⟨ha2.1, (Int.not_lt.mp h_21), by decide⟩ (q_iconst rfl (q_goto (t := 15) rfl rfl (v_zret rfl rfl (by decide) (bk_inl (v_if_eq_f (t := 23) rfl rfl (by decide) (q_iconst rfl (q_goto (t := 24) rfl rfl ?_)))))))
          refine v_cv rfl rfl rfl rfl (Nat.le_of_ble_eq_true rfl) ⟨⟨rfl, rfl⟩, Nat.le_of_ble_eq_true rfl, rfl⟩ (Nat.le_of_ble_eq_true rfl) (Nat.le_of_ble_eq_true rfl) (q_iload_n rfl rfl (v_if_ne_t (t := 25) rfl rfl (by decide) (q_vret rfl rfl (bk_inl (q_iconst rfl (q_istore_n rfl (Nat.le_of_ble_eq_true rfl) (q_iconst rfl ?_)))))))
          refine q_istore rfl (Nat.le_of_ble_eq_true rfl) (q_iconst rfl (q_istore rfl (Nat.le_of_ble_eq_true rfl) (q_iconst rfl (q_istore rfl (Nat.le_of_ble_eq_true rfl) (Wp_ls [(0, .ref 0), (1, vi a1), (2, vi a2), (3, vi 0), (4, vi (-1)), (5, vi 0), (6, vi 0)] (lsub_cons rfl (lsub_cons rfl (lsub_cons rfl (lsub_cons rfl (lsub_cons rfl (lsub_cons rfl (lsub_cons rfl lsub_nil))))))) ?_)))))
          exact (s_100_l (sc := sc) (d := d) hI ha1 ha2 T101 K 16) c 0 (-1) 0 0 hI (fun a j hm => rfl) ⟨by decide, by decide⟩ ⟨by decide, by decide⟩ ⟨by decide, by decide⟩ ⟨by decide, by decide⟩ ⟨by first | exact q_720657ba9 h_9 | omega, by first | exact q_eef7e887c h_13 | omega⟩ (by omega)

set_option maxRecDepth 100000 in
set_option maxHeartbeats 4000000 in
theorem s_101_l {sc : List Int32} {e : Int} {d u P Q : Nat} {c : ME} {Z : AR → Prop} (hI : Iv u e P Q c)  (K : ∀ (y : Int), (-2147483648) ≤ y ∧ y ≤ 2147483647 → Z (.inl (some (vi y)), Wd P Q P P c, 0, 0)) : ∀ n : Nat, (∀ (v1 : Int) (v2 : Int), (-2147483648) ≤ v1 ∧ v1 ≤ 2147483647 → 0 ≤ v2 ∧ v2 ≤ 6 → 13 - 2 * v2 < (n : Int) → Wp sc (d + 9) 101 4 [(0, .ref 0), (1, vi v1), (2, vi v2)] [] (Wd P Q P P c) 0 0 Z)
  | 0 => by intro v1 v2 hv1 hv2 hm9; have hP := iv_P hI; have hQ := iv_Q hI; exfalso; omega
  | n + 1 => by
    have hP := iv_P hI
    have hQ := iv_Q hI
    have ih := s_101_l (sc := sc) (d := d) hI K n
    intro v1 v2 hv1 hv2 hm9
    refine q_iload_n rfl rfl (q_aload_n rfl rfl (v_gr (t := P) rfl rfl rfl (Nat.le_of_ble_eq_true rfl) rfl ?_))
    have h_1 := ir_p0_0 hI hP
    refine v_gi (z := 0) (v := c P 0) rfl rfl (ck_p0 hP) (a68z hP) rfl rfl rfl ?_
    by_cases h_2 : v2 ≥ c P 0
    · refine v_ic_ge_t (t := 39) rfl rfl ⟨(Int.le_trans (by decide) h_1.1), h_2, (Int.le_trans hv2.2 (by decide))⟩ (q_iload_n rfl rfl (q_iret rfl rfl ?_))
      exact K v1 hv1
    · refine v_ic_ge_f (t := 39) rfl rfl ⟨(Int.le_trans (by decide) hv2.1), (Int.not_le.mp h_2), (Int.le_trans h_1.2 (by decide))⟩ (q_aload_n rfl rfl (v_gr (t := 37) rfl rfl rfl (Nat.le_of_ble_eq_true rfl) rfl (q_iload_n rfl rfl (v_cv rfl rfl rfl rfl (Nat.le_of_ble_eq_true rfl) ⟨⟨rfl, rfl⟩, Nat.le_of_ble_eq_true rfl, rfl⟩ (Nat.le_of_ble_eq_true rfl) (Nat.le_of_ble_eq_true rfl) (s_67 (a1 := v2) hI (.inl ⟨rfl, rfl⟩) (show 0 ≤ v2 ∧ v2 ≤ 5 from ⟨hv2.1, by first | exact q_d63a8538e h_1 h_2 | omega⟩) (fun y_3 hy_3 => (bk_inl (q_iconst rfl ?_))))))))
      by_cases h_4 : y_3 ≠ 1
      · refine v_ic_ne_t (t := 33) rfl rfl ⟨h_4, ⟨hy_3.1, hy_3.2⟩, by decide, by decide⟩ (v_iinc (v := v2 + 1) rfl rfl (Nat.le_of_ble_eq_true rfl) rfl (q_goto (t := 4) rfl rfl (Wp_ls [(0, .ref 0), (1, vi v1), (2, vi (v2 + 1))] (lsub_cons rfl (lsub_cons rfl (lsub_cons rfl lsub_nil))) ?_)))
        exact ih v1 (v2 + 1) hv1 ⟨by first | exact rgp_l hv2.1 (by decide) | omega, by first | exact q_4a76cd9c7 h_1 h_2 | (clear hv1 hv2 h_4; omega) | omega⟩ (by omega)
      · refine v_ic_ne_f (t := 33) rfl rfl (Decidable.not_not.mp h_4) (q_iload_n rfl rfl (q_iconst rfl (q_iload_n rfl rfl (v_shl1 rfl ⟨by omega, by omega⟩ (fun y_5 hy_5 => (v_iorx rfl (fun y_6 hy_6 => (q_istore_n rfl (Nat.le_of_ble_eq_true rfl) (v_iinc (v := v2 + 1) rfl rfl (Nat.le_of_ble_eq_true rfl) rfl ?_)))))))))
        refine q_goto (t := 4) rfl rfl (Wp_ls [(0, .ref 0), (1, vi y_6), (2, vi (v2 + 1))] (lsub_cons rfl (lsub_cons rfl (lsub_cons rfl lsub_nil))) ?_)
        exact ih y_6 (v2 + 1) hy_6 ⟨by first | exact rgp_l hv2.1 (by decide) | omega, by first | exact q_4a76cd9c7 h_1 h_2 | omega⟩ (by omega)
set_option maxRecDepth 100000 in
set_option maxHeartbeats 4000000 in
theorem s_101 {sc : List Int32} {e : Int} {d u P Q : Nat} {c : ME} {Z : AR → Prop} (hI : Iv u e P Q c)  (K : ∀ (y : Int), (-2147483648) ≤ y ∧ y ≤ 2147483647 → Z (.inl (some (vi y)), Wd P Q P P c, 0, 0)) : Wp sc (d + 9) 101 0 [(0, .ref 0)] [] (Wd P Q P P c) 0 0 Z := by
  have hP := iv_P hI
  have hQ := iv_Q hI
  refine q_iconst rfl (q_istore_n rfl (Nat.le_of_ble_eq_true rfl) (q_iconst rfl (q_istore_n rfl (Nat.le_of_ble_eq_true rfl) (Wp_ls [(0, .ref 0), (1, vi 0), (2, vi 0)] (lsub_cons rfl (lsub_cons rfl (lsub_cons rfl lsub_nil))) ?_))))
  exact (s_101_l (sc := sc) (d := d) hI K 16) 0 0 ⟨by decide, by decide⟩ ⟨by decide, by decide⟩ (by omega)

set_option maxRecDepth 100000 in
set_option maxHeartbeats 4000000 in
theorem s_102_l {sc : List Int32} {e : Int} {d u P Q : Nat} {c : ME} {a1 : Int} {Z : AR → Prop} (hI : Iv u e P Q c) (ha1 : (-2147483648) ≤ a1 ∧ a1 ≤ 2147483647) (T100 : ∀ c2 : ME, Iv u e P Q c2 → (∀ (a : Nat) (j : Int), ¬ ((a = 0 ∧ j = 12)) → c2 a j = c a j) → Z (.inr 100, Wd P Q P P c2, 1, 6)) (K : ∀ (c2 : ME) (y : Int), Iv u e P Q c2 → (∀ (a : Nat) (j : Int), ¬ ((a = 0 ∧ j = 12)) → c2 a j = c a j) → (-2147483648) ≤ y ∧ y ≤ 2147483647 → Z (.inl (some (vi y)), Wd P Q P P c2, 0, 0)) : ∀ n : Nat, (∀ (c2 : ME) (v2 : Int) (v3 : Int) (v4 : Int), Iv u e P Q c2 → (∀ (a : Nat) (j : Int), ¬ ((a = 0 ∧ j = 12)) → c2 a j = c a j) → (-1) ≤ v2 ∧ v2 ≤ 5 → (-2147483648) ≤ v3 ∧ v3 ≤ 2147483647 → 0 ≤ v4 ∧ v4 ≤ 6 → ((a1 ≥ 0 ∧ a1 ≤ 5)) → 13 - 2 * v4 < (n : Int) → Wp sc (d + 9) 102 12 [(0, .ref 0), (1, vi a1), (2, vi v2), (3, vi v3), (4, vi v4)] [] (Wd P Q P P c2) 0 0 Z)
  | 0 => by intro c2 v2 v3 v4 hI2 hF hv2 hv3 hv4 hx0 hm9; have hP := iv_P hI; have hQ := iv_Q hI; exfalso; omega
  | n + 1 => by
    have hP := iv_P hI
    have hQ := iv_Q hI
    have ih := s_102_l (sc := sc) (d := d) hI ha1 T100 K n
    intro c2 v2 v3 v4 hI2 hF hv2 hv3 hv4 hx0 hm9
    refine q_iload rfl rfl (q_aload_n rfl rfl (v_gr (t := P) rfl rfl rfl (Nat.le_of_ble_eq_true rfl) rfl ?_))
    have h_1 := ir_p0_0 hI hP
    have kn_2 : Hid (c2 P 0 = c P 0) := hF P 0 (fun h => absurd h.1 (np0 hP rfl))
    refine v_gi (z := 0) (v := c P 0) rfl rfl (ck_p0 hP) (a68z hP) rfl rfl (hid kn_2) ?_
    by_cases h_3 : v4 ≥ c P 0
    · refine v_ic_ge_t (t := 88) rfl rfl ⟨by first | exact q_730ab5169 h_1 | omega, h_3, (Int.le_trans hv4.2 (by decide))⟩ (q_iload_n rfl rfl (q_iret rfl rfl ?_))
      exact K c2 v2 hI2 (fun a j hm => hF a j (fun h => hm h)) ⟨(Int.le_trans (by decide) hv2.1), (Int.le_trans hv2.2 (by decide))⟩
    · refine v_ic_ge_f (t := 88) rfl rfl ⟨(Int.le_trans (by decide) hv4.1), (Int.not_le.mp h_3), by first | exact q_b289b7db2 h_1 | omega⟩ (q_aload_n rfl rfl (v_gr (t := 37) rfl rfl rfl (Nat.le_of_ble_eq_true rfl) rfl (q_iload rfl rfl (v_cv rfl rfl rfl rfl (Nat.le_of_ble_eq_true rfl) ⟨⟨rfl, rfl⟩, Nat.le_of_ble_eq_true rfl, rfl⟩ (Nat.le_of_ble_eq_true rfl) (Nat.le_of_ble_eq_true rfl) (s_68 (a1 := v4) hI2 (.inl ⟨rfl, rfl⟩) (show 0 ≤ v4 ∧ v4 ≤ 5 from ⟨hv4.1, by first | exact q_d63a8538e h_1 h_3 | omega⟩) (fun y_4 hy_4 => (bk_inl (q_aload_n rfl rfl (v_gr (t := 37) rfl rfl rfl (Nat.le_of_ble_eq_true rfl) rfl ?_)))))))))
      refine q_iload_n rfl rfl (v_cv rfl rfl rfl rfl (Nat.le_of_ble_eq_true rfl) ⟨⟨rfl, rfl⟩, Nat.le_of_ble_eq_true rfl, rfl⟩ (Nat.le_of_ble_eq_true rfl) (Nat.le_of_ble_eq_true rfl) (s_68 (a1 := a1) hI2 (.inl ⟨rfl, rfl⟩) (show 0 ≤ a1 ∧ a1 ≤ 5 from ⟨by omega, by omega⟩) (fun y_5 hy_5 => (bk_inl (v_isub (v := y_4 - y_5) rfl rfl (v_nrm (fun y_6 hy_6 => (v_absx rfl rfl (by omega) (Nat.le_of_ble_eq_true rfl) (fun y_7 hy_7 => (q_istore rfl (Nat.le_of_ble_eq_true rfl) (q_iload rfl rfl ?_)))))))))))
      refine q_iload_n rfl rfl ?_
      by_cases h_8 : v4 = a1
      · refine v_ic_eq_t (t := 82) rfl rfl h_8 (v_iinc (v := v4 + 1) rfl rfl (Nat.le_of_ble_eq_true rfl) rfl (q_goto (t := 12) rfl rfl (Wp_ls [(0, .ref 0), (1, vi a1), (2, vi v2), (3, vi v3), (4, vi (v4 + 1))] (lsub_cons rfl (lsub_cons rfl (lsub_cons rfl (lsub_cons rfl (lsub_cons rfl lsub_nil))))) ?_)))
        exact ih c2 v2 v3 (v4 + 1) hI2 (fun a j hm => hF a j (fun h => hm h)) hv2 hv3 ⟨by first | exact rgp_l hv4.1 (by decide) | omega, by first | exact q_4a76cd9c7 h_1 h_3 | omega⟩ ⟨by omega, by omega⟩ (by omega)
      · refine v_ic_eq_f (t := 82) rfl rfl ⟨h_8, ⟨(Int.le_trans (by decide) hv4.1), (Int.le_trans hv4.2 (by decide))⟩, ha1.1, ha1.2⟩ (q_aload_n rfl rfl (v_gr (t := 37) rfl rfl rfl (Nat.le_of_ble_eq_true rfl) rfl (q_iload rfl rfl ?_)))
        have h_9 := ir_38_g hI (j := 4 * v4) (by first | exact q_aa51b186e h_1 h_3 | (clear ha1 hv2 hv3 hv4 hx0 h_8; omega) | omega)
        have kn_10 : Hid (c2 38 (4 * v4) = c 38 (4 * v4)) := hF 38 (4 * v4) (fun h => absurd h.1 (nn rfl))
        have h_11 := ir_38_g hI (j := 4 * v4 + 1) (by first | exact q_57851f9de h_1 h_3 | (clear ha1 hv2 hv3 hv4 hx0 h_9 h_8; omega) | omega)
        have kn_12 : Hid (c2 38 (4 * v4 + 1) = c 38 (4 * v4 + 1)) := hF 38 (4 * v4 + 1) (fun h => absurd h.1 (nn rfl))
        have h_13 := ir_38_g hI (j := 4 * v4 + 2) (by first | exact q_7296e74e6 h_1 h_3 | (clear ha1 hv2 hv3 hv4 hx0 h_9 h_11 h_8; omega) | omega)
        have kn_14 : Hid (c2 38 (4 * v4 + 2) = c 38 (4 * v4 + 2)) := hF 38 (4 * v4 + 2) (fun h => absurd h.1 (nn rfl))
        have h_15 := ir_38_g hI (j := 4 * v4 + 3) (by first | exact q_b15525c4c h_1 h_3 | (clear ha1 hv2 hv3 hv4 hx0 h_9 h_11 h_13 h_8; omega) | omega)
        have kn_16 : Hid (c2 38 (4 * v4 + 3) = c 38 (4 * v4 + 3)) := hF 38 (4 * v4 + 3) (fun h => absurd h.1 (nn rfl))
        refine v_cv rfl rfl rfl rfl (Nat.le_of_ble_eq_true rfl) ⟨⟨rfl, rfl⟩, Nat.le_of_ble_eq_true rfl, rfl⟩ (Nat.le_of_ble_eq_true rfl) (Nat.le_of_ble_eq_true rfl) (s_43 (v1 := c 38 (4 * v4)) (v2 := c 38 (4 * v4 + 1)) (v3 := c 38 (4 * v4 + 2)) (v4 := c 38 (4 * v4 + 3)) (r := c 38 (4 * v4 + 1) + c 38 (4 * v4 + 2) + c 38 (4 * v4 + 3) + c 38 (4 * v4)) (a1 := v4) hI2 (.inl ⟨rfl, rfl⟩) (show 0 ≤ v4 ∧ v4 ≤ 5 from ⟨hv4.1, by first | exact q_d63a8538e h_1 h_3 | (clear ha1 hv2 hv3 hv4 hx0 h_8; omega) | omega⟩) ((hid kn_10)) ((hid kn_12)) ((hid kn_14)) ((hid kn_16)) (by omega) (bk_inl ?_))
        by_cases h_17 : c 38 (4 * v4 + 1) + c 38 (4 * v4 + 2) + c 38 (4 * v4 + 3) + c 38 (4 * v4) ≤ 0
        · refine v_if_le_t (t := 82) rfl rfl ⟨by first | exact q_8c4697e7c h_11 h_13 h_15 h_9 | (clear ha1 hv2 hv3 hv4 hx0 h_1 h_3 h_8; omega) | omega, h_17, by decide⟩ (v_iinc (v := v4 + 1) rfl rfl (Nat.le_of_ble_eq_true rfl) rfl (q_goto (t := 12) rfl rfl (Wp_ls [(0, .ref 0), (1, vi a1), (2, vi v2), (3, vi v3), (4, vi (v4 + 1))] (lsub_cons rfl (lsub_cons rfl (lsub_cons rfl (lsub_cons rfl (lsub_cons rfl lsub_nil))))) ?_)))
          exact ih c2 v2 v3 (v4 + 1) hI2 (fun a j hm => hF a j (fun h => hm h)) hv2 hv3 ⟨by first | exact rgp_l hv4.1 (by decide) | omega, by first | exact q_4a76cd9c7 h_1 h_3 | (clear ha1 hv2 hv3 hv4 hx0 h_9 h_11 h_13 h_15 h_17 h_8; omega) | omega⟩ ⟨by first | (clear ha1 hv2 hv3 hv4 h_1 h_3 h_9 h_11 h_13 h_15 h_17 h_8; omega) | omega, by first | (clear ha1 hv2 hv3 hv4 h_1 h_3 h_9 h_11 h_13 h_15 h_17 h_8; omega) | omega⟩ (by omega)
        · refine v_if_le_f (t := 82) rfl rfl ⟨by decide, (Int.not_le.mp h_17), by first | exact q_46d991406 h_11 h_13 h_15 h_9 | (clear ha1 hv2 hv3 hv4 hx0 h_1 h_3 h_8; omega) | omega⟩ (q_iload_n rfl rfl (q_iconst rfl ?_))
          by_cases h_18 : v2 = (-1)
          · refine v_ic_eq_t (t := 76) rfl rfl h_18 (q_iload rfl rfl (q_istore_n rfl (Nat.le_of_ble_eq_true rfl) (q_iload rfl rfl (q_istore_n rfl (Nat.le_of_ble_eq_true rfl) (v_iinc (v := v4 + 1) rfl rfl (Nat.le_of_ble_eq_true rfl) rfl (q_goto (t := 12) rfl rfl (Wp_ls [(0, .ref 0), (1, vi a1), (2, vi v4), (3, vi y_7), (4, vi (v4 + 1))] (lsub_cons rfl (lsub_cons rfl (lsub_cons rfl (lsub_cons rfl (lsub_cons rfl lsub_nil))))) ?_)))))))
            exact ih c2 v4 y_7 (v4 + 1) hI2 (fun a j hm => hF a j (fun h => hm h)) ⟨(Int.le_trans (by decide) hv4.1), by first | exact q_d63a8538e h_1 h_3 | (clear ha1 hv2 hv3 hv4 hx0 h_9 h_11 h_13 h_15 h_17 h_18 h_8; omega) | omega⟩ hy_7 ⟨by first | exact rgp_l hv4.1 (by decide) | omega, by first | exact q_4a76cd9c7 h_1 h_3 | (clear ha1 hv2 hv3 hv4 hx0 h_9 h_11 h_13 h_15 h_17 h_18 h_8; omega) | omega⟩ ⟨by first | (clear ha1 hv2 hv3 hv4 h_1 h_3 h_9 h_11 h_13 h_15 h_17 h_18 h_8; omega) | omega, by first | (clear ha1 hv2 hv3 hv4 h_1 h_3 h_9 h_11 h_13 h_15 h_17 h_18 h_8; omega) | omega⟩ (by omega)
          · refine v_ic_eq_f (t := 76) rfl rfl ⟨h_18, ⟨(Int.le_trans (by decide) hv2.1), (Int.le_trans hv2.2 (by decide))⟩, by decide, by decide⟩ (q_iload rfl rfl (q_iload_n rfl rfl ?_))
            by_cases h_19 : y_7 ≥ v3
            · refine v_ic_ge_t (t := 82) rfl rfl ⟨hv3.1, h_19, hy_7.2⟩ (v_iinc (v := v4 + 1) rfl rfl (Nat.le_of_ble_eq_true rfl) rfl (q_goto (t := 12) rfl rfl (Wp_ls [(0, .ref 0), (1, vi a1), (2, vi v2), (3, vi v3), (4, vi (v4 + 1))] (lsub_cons rfl (lsub_cons rfl (lsub_cons rfl (lsub_cons rfl (lsub_cons rfl lsub_nil))))) ?_)))
              exact ih c2 v2 v3 (v4 + 1) hI2 (fun a j hm => hF a j (fun h => hm h)) hv2 hv3 ⟨by first | exact rgp_l hv4.1 (by decide) | omega, by first | exact q_4a76cd9c7 h_1 h_3 | (clear ha1 hv2 hv3 hv4 hx0 h_9 h_11 h_13 h_15 h_17 h_19 h_8 h_18; omega) | omega⟩ ⟨by first | (clear ha1 hv2 hv3 hv4 h_1 h_3 h_9 h_11 h_13 h_15 h_17 h_19 h_8 h_18; omega) | omega, by first | (clear ha1 hv2 hv3 hv4 h_1 h_3 h_9 h_11 h_13 h_15 h_17 h_19 h_8 h_18; omega) | omega⟩ (by omega)
            · refine v_ic_ge_f (t := 82) rfl rfl ⟨hy_7.1, (Int.not_le.mp h_19), hv3.2⟩ (q_iload rfl rfl (q_istore_n rfl (Nat.le_of_ble_eq_true rfl) (q_iload rfl rfl (q_istore_n rfl (Nat.le_of_ble_eq_true rfl) (v_iinc (v := v4 + 1) rfl rfl (Nat.le_of_ble_eq_true rfl) rfl (q_goto (t := 12) rfl rfl (Wp_ls [(0, .ref 0), (1, vi a1), (2, vi v4), (3, vi y_7), (4, vi (v4 + 1))] (lsub_cons rfl (lsub_cons rfl (lsub_cons rfl (lsub_cons rfl (lsub_cons rfl lsub_nil))))) ?_)))))))
              exact ih c2 v4 y_7 (v4 + 1) hI2 (fun a j hm => hF a j (fun h => hm h)) ⟨(Int.le_trans (by decide) hv4.1), by first | exact q_d63a8538e h_1 h_3 | (clear ha1 hv2 hv3 hv4 hx0 h_9 h_11 h_13 h_15 h_17 h_19 h_8 h_18; omega) | omega⟩ hy_7 ⟨by first | exact rgp_l hv4.1 (by decide) | omega, by first | exact q_4a76cd9c7 h_1 h_3 | (clear ha1 hv2 hv3 hv4 hx0 h_9 h_11 h_13 h_15 h_17 h_19 h_8 h_18; omega) | omega⟩ ⟨by first | (clear ha1 hv2 hv3 hv4 h_1 h_3 h_9 h_11 h_13 h_15 h_17 h_19 h_8 h_18; omega) | omega, by first | (clear ha1 hv2 hv3 hv4 h_1 h_3 h_9 h_11 h_13 h_15 h_17 h_19 h_8 h_18; omega) | omega⟩ (by omega)
set_option maxRecDepth 100000 in
set_option maxHeartbeats 4000000 in
theorem s_102 {sc : List Int32} {e : Int} {d u P Q : Nat} {c : ME} {a1 : Int} {Z : AR → Prop} (hI : Iv u e P Q c) (ha1 : (-2147483648) ≤ a1 ∧ a1 ≤ 2147483647) (T100 : ∀ c2 : ME, Iv u e P Q c2 → (∀ (a : Nat) (j : Int), ¬ ((a = 0 ∧ j = 12)) → c2 a j = c a j) → Z (.inr 100, Wd P Q P P c2, 1, 6)) (K : ∀ (c2 : ME) (y : Int), Iv u e P Q c2 → (∀ (a : Nat) (j : Int), ¬ ((a = 0 ∧ j = 12)) → c2 a j = c a j) → (-2147483648) ≤ y ∧ y ≤ 2147483647 → Z (.inl (some (vi y)), Wd P Q P P c2, 0, 0)) : Wp sc (d + 9) 102 0 [(0, .ref 0), (1, vi a1)] [] (Wd P Q P P c) 0 0 Z := by
  have hP := iv_P hI
  have hQ := iv_Q hI
  refine q_aload_n rfl rfl (q_iload_n rfl rfl (v_cv rfl rfl rfl rfl (Nat.le_of_ble_eq_true rfl) ⟨⟨rfl, rfl⟩, Nat.le_of_ble_eq_true rfl, rfl⟩ (Nat.le_of_ble_eq_true rfl) (Nat.le_of_ble_eq_true rfl) (q_aload_n rfl rfl (q_iload_n rfl rfl (q_iconst rfl (q_aload_n rfl rfl (v_gr (t := P) rfl rfl rfl (Nat.le_of_ble_eq_true rfl) rfl ?_)))))))
  have h_20 := ir_p0_0 hI hP
  refine v_gi (z := 0) (v := c P 0) rfl rfl (ck_p0 hP) (a68z hP) rfl rfl rfl (q_iconst rfl (v_isub (v := c P 0 - 1) rfl rfl (q_call rfl rfl rfl rfl (q_iload_n rfl rfl (q_iload_n rfl rfl ?_)))))
  by_cases h_21 : a1 < 0
  · refine v_ic_lt_t (t := 14) rfl rfl ⟨ha1.1, h_21, by decide⟩ (q_iconst rfl (v_zret rfl rfl (by decide) (bk_inl (v_cv rfl rfl rfl rfl (Nat.le_of_ble_eq_true rfl) ⟨⟨rfl, rfl⟩, Nat.le_of_ble_eq_true rfl, rfl⟩ (Nat.le_of_ble_eq_true rfl) (Nat.le_of_ble_eq_true rfl) (q_iload_n rfl rfl (v_if_ne_f (t := 25) rfl rfl (by decide) (q_aload_n rfl rfl ?_)))))))
    refine q_dup rfl rfl ?_
    have h_22 := ir_0_12 hI
    refine v_gi (z := 12) (v := c 0 12) rfl rfl rfl (Nat.le_of_ble_eq_true rfl) rfl rfl rfl (q_iconst rfl (v_iadd (v := c 0 12 + 1) rfl rfl (v_nrm (fun y_23 hy_23 => (v_pi (z := 12) rfl rfl rfl (Nat.le_of_ble_eq_true rfl) rfl rfl rfl (by decide) (v_new rfl rfl (by decide) (by omega) (Nat.le_of_ble_eq_true rfl) (by decide) rfl (bk_out rfl rfl (bk_out rfl rfl ?_))))))))
    have hI_24 := iw_0_12 (v := y_23) hI ⟨hy_23.1, hy_23.2⟩
    exact T100 _ hI_24 (fun a j hm => up_b (Decidable.or_iff_not_imp_left.mpr (fun h1 h2 => hm ⟨Decidable.not_not.mp h1, h2⟩)))
  · refine v_ic_lt_f (t := 14) rfl rfl ⟨by decide, (Int.not_lt.mp h_21), ha1.2⟩ (q_iload_n rfl rfl (q_iload_n rfl rfl ?_))
    by_cases h_25 : a1 > c P 0 - 1
    · refine v_ic_gt_t (t := 14) rfl rfl ⟨by first | exact rgm_l h_20.1 (by decide) | omega, h_25, ha1.2⟩ (q_iconst rfl (v_zret rfl rfl (by decide) (bk_inl (v_cv rfl rfl rfl rfl (Nat.le_of_ble_eq_true rfl) ⟨⟨rfl, rfl⟩, Nat.le_of_ble_eq_true rfl, rfl⟩ (Nat.le_of_ble_eq_true rfl) (Nat.le_of_ble_eq_true rfl) (q_iload_n rfl rfl (v_if_ne_f (t := 25) rfl rfl (by decide) (q_aload_n rfl rfl ?_)))))))
      refine q_dup rfl rfl ?_
      have h_26 := ir_0_12 hI
      refine v_gi (z := 12) (v := c 0 12) rfl rfl rfl (Nat.le_of_ble_eq_true rfl) rfl rfl rfl (q_iconst rfl (v_iadd (v := c 0 12 + 1) rfl rfl (v_nrm (fun y_27 hy_27 => (v_pi (z := 12) rfl rfl rfl (Nat.le_of_ble_eq_true rfl) rfl rfl rfl (by decide) (v_new rfl rfl (by decide) (by omega) (Nat.le_of_ble_eq_true rfl) (by decide) rfl (bk_out rfl rfl (bk_out rfl rfl ?_))))))))
      have hI_28 := iw_0_12 (v := y_27) hI ⟨hy_27.1, hy_27.2⟩
      exact T100 _ hI_28 (fun a j hm => up_b (Decidable.or_iff_not_imp_left.mpr (fun h1 h2 => hm ⟨Decidable.not_not.mp h1, h2⟩)))
    · refine v_ic_gt_f (t := 14) rfl rfl ⟨ha1.1, (Int.not_lt.mp h_25), by first | exact rgm_h h_20.2 (by decide) | omega⟩ (q_iconst rfl (q_goto (t := 15) rfl rfl (v_zret rfl rfl (by decide) (bk_inl (v_cv rfl rfl rfl rfl (Nat.le_of_ble_eq_true rfl) ⟨⟨rfl, rfl⟩, Nat.le_of_ble_eq_true rfl, rfl⟩ (Nat.le_of_ble_eq_true rfl) (Nat.le_of_ble_eq_true rfl) (q_iload_n rfl rfl (v_if_ne_t (t := 25) rfl rfl (by decide) ?_)))))))
      refine q_vret rfl rfl (bk_inl (q_vret rfl rfl (bk_inl (q_iconst rfl (q_istore_n rfl (Nat.le_of_ble_eq_true rfl) (q_iconst rfl (q_istore_n rfl (Nat.le_of_ble_eq_true rfl) ?_)))))))
      refine q_iconst rfl (q_istore rfl (Nat.le_of_ble_eq_true rfl) (Wp_ls [(0, .ref 0), (1, vi a1), (2, vi (-1)), (3, vi 0), (4, vi 0)] (lsub_cons rfl (lsub_cons rfl (lsub_cons rfl (lsub_cons rfl (lsub_cons rfl lsub_nil))))) ?_))
      exact (s_102_l (sc := sc) (d := d) hI ha1 T100 K 16) c (-1) 0 0 hI (fun a j hm => rfl) ⟨by decide, by decide⟩ ⟨by decide, by decide⟩ ⟨by decide, by decide⟩ ⟨by first | exact q_720657ba9 h_21 | omega, by first | exact q_3a2e67ab0 h_20 h_25 | omega⟩ (by omega)

set_option maxRecDepth 100000 in
set_option maxHeartbeats 4000000 in
theorem s_103 {sc : List Int32} {e : Int} {d u P Q : Nat} {c : ME} {a1 : Int} {Z : AR → Prop} (hI : Iv u e P Q c) (ha1 : (-2147483648) ≤ a1 ∧ a1 ≤ 2147483647) (T100 : ∀ c2 : ME, Iv u e P Q c2 → (∀ (a : Nat) (j : Int), ¬ ((a = 0 ∧ j = 12) ∨ a = (P + 10) ∨ a = (P + 11)) → c2 a j = c a j) → Z (.inr 100, Wd P Q P P c2, 1, 6)) (K : ∀ (c2 : ME) (y : Int), Iv u e P Q c2 → (∀ (a : Nat) (j : Int), ¬ ((a = 0 ∧ j = 12) ∨ a = (P + 10) ∨ a = (P + 11)) → c2 a j = c a j) → (-2147483648) ≤ y ∧ y ≤ 2147483647 → Z (.inl (some (vi y)), Wd P Q P P c2, 0, 0)) : Wp sc (d + 10) 103 0 [(0, .ref 0), (1, vi a1)] [] (Wd P Q P P c) 0 0 Z := by
  have hP := iv_P hI
  have hQ := iv_Q hI
  refine q_aload_n rfl rfl (q_iload_n rfl rfl (v_cv rfl rfl rfl rfl (Nat.le_of_ble_eq_true rfl) ⟨⟨rfl, rfl⟩, Nat.le_of_ble_eq_true rfl, rfl⟩ (Nat.le_of_ble_eq_true rfl) (Nat.le_of_ble_eq_true rfl) (q_aload_n rfl rfl (q_iload_n rfl rfl (q_iconst rfl (q_aload_n rfl rfl (v_gr (t := P) rfl rfl rfl (Nat.le_of_ble_eq_true rfl) rfl ?_)))))))
  have h_1 := ir_p0_0 hI hP
  refine v_gi (z := 0) (v := c P 0) rfl rfl (ck_p0 hP) (a68z hP) rfl rfl rfl (q_iconst rfl (v_isub (v := c P 0 - 1) rfl rfl (q_call rfl rfl rfl rfl (q_iload_n rfl rfl (q_iload_n rfl rfl ?_)))))
  by_cases h_2 : a1 < 0
  · refine v_ic_lt_t (t := 14) rfl rfl ⟨ha1.1, h_2, by decide⟩ (q_iconst rfl (v_zret rfl rfl (by decide) (bk_inl (v_cv rfl rfl rfl rfl (Nat.le_of_ble_eq_true rfl) ⟨⟨rfl, rfl⟩, Nat.le_of_ble_eq_true rfl, rfl⟩ (Nat.le_of_ble_eq_true rfl) (Nat.le_of_ble_eq_true rfl) (q_iload_n rfl rfl (v_if_ne_f (t := 25) rfl rfl (by decide) (q_aload_n rfl rfl ?_)))))))
    refine q_dup rfl rfl ?_
    have h_3 := ir_0_12 hI
    refine v_gi (z := 12) (v := c 0 12) rfl rfl rfl (Nat.le_of_ble_eq_true rfl) rfl rfl rfl (q_iconst rfl (v_iadd (v := c 0 12 + 1) rfl rfl (v_nrm (fun y_4 hy_4 => (v_pi (z := 12) rfl rfl rfl (Nat.le_of_ble_eq_true rfl) rfl rfl rfl (by decide) (v_new rfl rfl (by decide) (by omega) (Nat.le_of_ble_eq_true rfl) (by decide) rfl (bk_out rfl rfl (bk_out rfl rfl ?_))))))))
    have hI_5 := iw_0_12 (v := y_4) hI ⟨hy_4.1, hy_4.2⟩
    exact T100 _ hI_5 (fun a j hm => up_b (Decidable.or_iff_not_imp_left.mpr (fun h1 h2 => hm (Or.inl ⟨Decidable.not_not.mp h1, h2⟩))))
  · refine v_ic_lt_f (t := 14) rfl rfl ⟨by decide, (Int.not_lt.mp h_2), ha1.2⟩ (q_iload_n rfl rfl (q_iload_n rfl rfl ?_))
    by_cases h_6 : a1 > c P 0 - 1
    · refine v_ic_gt_t (t := 14) rfl rfl ⟨by first | exact rgm_l h_1.1 (by decide) | omega, h_6, ha1.2⟩ (q_iconst rfl (v_zret rfl rfl (by decide) (bk_inl (v_cv rfl rfl rfl rfl (Nat.le_of_ble_eq_true rfl) ⟨⟨rfl, rfl⟩, Nat.le_of_ble_eq_true rfl, rfl⟩ (Nat.le_of_ble_eq_true rfl) (Nat.le_of_ble_eq_true rfl) (q_iload_n rfl rfl (v_if_ne_f (t := 25) rfl rfl (by decide) (q_aload_n rfl rfl ?_)))))))
      refine q_dup rfl rfl ?_
      have h_7 := ir_0_12 hI
      refine v_gi (z := 12) (v := c 0 12) rfl rfl rfl (Nat.le_of_ble_eq_true rfl) rfl rfl rfl (q_iconst rfl (v_iadd (v := c 0 12 + 1) rfl rfl (v_nrm (fun y_8 hy_8 => (v_pi (z := 12) rfl rfl rfl (Nat.le_of_ble_eq_true rfl) rfl rfl rfl (by decide) (v_new rfl rfl (by decide) (by omega) (Nat.le_of_ble_eq_true rfl) (by decide) rfl (bk_out rfl rfl (bk_out rfl rfl ?_))))))))
      have hI_9 := iw_0_12 (v := y_8) hI ⟨hy_8.1, hy_8.2⟩
      exact T100 _ hI_9 (fun a j hm => up_b (Decidable.or_iff_not_imp_left.mpr (fun h1 h2 => hm (Or.inl ⟨Decidable.not_not.mp h1, h2⟩))))
    · refine v_ic_gt_f (t := 14) rfl rfl ⟨ha1.1, (Int.not_lt.mp h_6), by first | exact rgm_h h_1.2 (by decide) | omega⟩ (q_iconst rfl (q_goto (t := 15) rfl rfl (v_zret rfl rfl (by decide) (bk_inl (v_cv rfl rfl rfl rfl (Nat.le_of_ble_eq_true rfl) ⟨⟨rfl, rfl⟩, Nat.le_of_ble_eq_true rfl, rfl⟩ (Nat.le_of_ble_eq_true rfl) (Nat.le_of_ble_eq_true rfl) (q_iload_n rfl rfl (v_if_ne_t (t := 25) rfl rfl (by decide) ?_)))))))
      refine q_vret rfl rfl (bk_inl (q_vret rfl rfl (bk_inl (q_aload_n rfl rfl (v_gr (t := 37) rfl rfl rfl (Nat.le_of_ble_eq_true rfl) rfl (q_iload_n rfl rfl (v_cv rfl rfl rfl rfl (Nat.le_of_ble_eq_true rfl) ⟨⟨rfl, rfl⟩, Nat.le_of_ble_eq_true rfl, rfl⟩ (Nat.le_of_ble_eq_true rfl) (Nat.le_of_ble_eq_true rfl) (s_56 (a1 := a1) hI (.inl ⟨rfl, rfl⟩) (show 0 ≤ a1 ∧ a1 ≤ 5 from ⟨by first | exact q_720657ba9 h_2 | omega, by first | exact q_3a2e67ab0 h_1 h_6 | omega⟩) (fun c_10 y_13 hI_11 hF_12 hy_13 => ?_)))))))))
      refine bk_inl (q_iret rfl rfl ?_)
      exact K c_10 y_13 hI_11 (fun a j hm => hF_12 a j (fun q => q.elim (fun h => hm (Or.inr (Or.inl h))) (fun h => hm (Or.inr (Or.inr h))))) ⟨(Int.le_trans (by decide) hy_13.1), (Int.le_trans hy_13.2 (by decide))⟩

