/-! ===== class and reference side by side ===== -/
set_option maxRecDepth 100000 in
set_option maxHeartbeats 4000000 in
theorem s_84u {sc : List Int32} {d P Q : Nat} {c : ME} {Z : AR → Prop} (hI : Iv 0 (-1) P Q c)  (K : ∀ (c2 : ME) (y : Int), Iv 0 (-1) P Q c2 → (∀ (a : Nat) (j : Int), ¬ (a = 38 ∨ a = 40 ∨ (a = 3 ∧ j = 3) ∨ (a = 3 ∧ j = 4) ∨ (a = 0 ∧ j = 11)) → c2 a j = c a j) → (-2147483648) ≤ y ∧ y ≤ 2147483647 → ((c 1 4 < 0) ∨ (c 1 4 > 0) ∨ (y = c P 0)) → ((c2 3 3 = 0 ∧ c2 3 4 = 0 ∧ c2 0 11 = 0)) → Z (.inl (some (vi y)), Wd P Q P P c2, 0, 0)) : Wp sc (d + 13) 84 47 [(0, .ref 0)] [] (Wd P Q Q Q c) 0 0 Z := by
  have hP := iv_P hI
  have hQ := iv_Q hI
  refine q_aload_n rfl rfl ?_
  refine v_gr (t := 37) rfl rfl rfl (by decide) rfl ?_
  refine q_aload_n rfl rfl ?_
  refine v_gr (t := P) rfl rfl rfl (by decide) rfl ?_
  refine v_cv rfl rfl rfl rfl (by decide) ⟨⟨rfl, rfl⟩, by decide, rfl⟩ (Nat.le_of_ble_eq_true rfl) (Nat.le_of_ble_eq_true rfl) (s_65a hI (fun c_1 hI_2 hF_3 => ?_))
  refine bk_inl ?_
  refine q_aload_n rfl rfl ?_
  refine v_gr (t := 39) rfl rfl rfl (by decide) rfl ?_
  refine q_aload_n rfl rfl ?_
  refine v_gr (t := P) rfl rfl rfl (by decide) rfl ?_
  refine v_cv rfl rfl rfl rfl (by decide) ⟨⟨rfl, rfl⟩, by decide, rfl⟩ (Nat.le_of_ble_eq_true rfl) (Nat.le_of_ble_eq_true rfl) (s_65b hI_2 (fun c_4 hI_5 hF_6 => ?_))
  refine bk_inl ?_
  refine q_aload_n rfl rfl ?_
  refine v_gr (t := 3) rfl rfl rfl (by decide) rfl ?_
  refine v_cv rfl rfl rfl rfl (by decide) ⟨⟨rfl, rfl⟩, by decide, rfl⟩ (Nat.le_of_ble_eq_true rfl) (Nat.le_of_ble_eq_true rfl) (s_22 hI_5 (fun c_7 hI_8 hF_9 h_10 => ?_))
  refine bk_inl ?_
  have h_11 := ir_3_3 hI_8
  have h_12 := ir_3_4 hI_8
  refine q_aload_n rfl rfl ?_
  refine q_iconst rfl ?_
  refine v_pi (z := 11) rfl rfl rfl (by decide) rfl rfl rfl (by decide) ?_
  refine q_aload_n rfl rfl ?_
  refine q_aload_n rfl rfl ?_
  refine v_gr (t := P) rfl rfl rfl (by decide) rfl ?_
  have h_13 := ir_p0_0 hI hP
  have kn_14 : Hid (c_1 P 0 = c P 0) := hF_3 P 0 (fun h => absurd h (np0 hP rfl))
  have kn_15 : Hid (c_4 P 0 = c P 0) := (hF_6 P 0 (fun h => absurd h (np0 hP rfl))).trans (hid kn_14)
  have kn_16 : Hid (c_7 P 0 = c P 0) := (hF_9 P 0 (fun q => q.elim (fun h => absurd h.1 (np0 hP rfl)) (fun h => absurd h.1 (np0 hP rfl)))).trans (hid kn_15)
  refine v_gi (z := 0) (v := c P 0) rfl rfl (ck_p0 hP) (by omega) rfl rfl ((up_c (np0 hP rfl)).trans (hid kn_16)) ?_
  refine v_cv rfl rfl rfl rfl (by decide) ⟨⟨rfl, rfl⟩, by decide, rfl⟩ (Nat.le_of_ble_eq_true rfl) (Nat.le_of_ble_eq_true rfl) ?_
  refine q_aload_n rfl rfl ?_
  refine v_gr (t := 1) rfl rfl rfl (by decide) rfl ?_
  refine v_cv rfl rfl rfl rfl (by decide) ⟨⟨rfl, rfl⟩, by decide, rfl⟩ (Nat.le_of_ble_eq_true rfl) (Nat.le_of_ble_eq_true rfl) ?_
  refine q_aload_n rfl rfl ?_
  have h_17 := ir_1_4 hI
  have kn_18 : Hid (c_1 1 4 = c 1 4) := hF_3 1 4 (fun h => absurd h (nn rfl))
  have kn_19 : Hid (c_4 1 4 = c 1 4) := (hF_6 1 4 (fun h => absurd h (nn rfl))).trans (hid kn_18)
  have kn_20 : Hid (c_7 1 4 = c 1 4) := (hF_9 1 4 (fun q => q.elim (fun h => absurd h.1 (nn rfl)) (fun h => absurd h.1 (nn rfl)))).trans (hid kn_19)
  refine v_gi (z := 4) (v := c 1 4) rfl rfl rfl (by decide) rfl rfl ((up_c (nn rfl)).trans (hid kn_20)) ?_
  by_cases h_21 : c 1 4 ≠ 0
  · refine v_if_ne_t (t := 11) rfl (by decide) (by omega) ?_
    refine q_iconst rfl ?_
    refine v_zret rfl rfl (by decide) ?_
    refine bk_inl ?_
    refine v_if_eq_t (t := 14) rfl (by decide) (by decide) ?_
    refine q_aload_n rfl rfl ?_
    refine v_gr (t := 1) rfl rfl rfl (by decide) rfl ?_
    refine v_gi (z := 4) (v := c 1 4) rfl rfl rfl (by decide) rfl rfl ((up_c (nn rfl)).trans (hid kn_20)) ?_
    refine v_bip rfl (by decide) ?_
    refine v_isub (v := c 1 4 - 10) rfl (by omega) ?_
    refine q_iret rfl rfl ?_
    refine bk_inl ?_
    refine q_iret rfl rfl ?_
    have hI_22 := iw_0_11 (v := 0) hI_8 ⟨by decide, by decide⟩
    have h_23 : (up c_7 0 11 0) 0 11 = 0 := (up_e rfl)
    have h_24 : (up c_7 0 11 0) 3 3 = c_7 3 3 := (up_c (nn rfl))
    have h_25 : (up c_7 0 11 0) 3 4 = c_7 3 4 := (up_c (nn rfl))
    exact K (up c_7 0 11 0) (c 1 4 - 10) hI_22 (fun a j hm => (up_b (Decidable.or_iff_not_imp_left.mpr (fun h1 h2 => hm (Or.inr (Or.inr (Or.inr (Or.inr ⟨Decidable.not_not.mp h1, h2⟩))))))).trans ((hF_9 a j (fun q => q.elim (fun h => hm (Or.inr (Or.inr (Or.inl h)))) (fun h => hm (Or.inr (Or.inr (Or.inr (Or.inl h))))))).trans ((hF_6 a j (fun h => hm (Or.inr (Or.inl h)))).trans (hF_3 a j (fun h => hm (Or.inl h)))))) ⟨by omega, by omega⟩ (by omega) (by omega)
  · refine v_if_ne_f (t := 11) rfl (by decide) (by omega) ?_
    refine q_iconst rfl ?_
    refine q_goto (t := 12) rfl (by decide) ?_
    refine v_zret rfl rfl (by decide) ?_
    refine bk_inl ?_
    refine v_if_eq_f (t := 14) rfl (by decide) (by decide) ?_
    refine q_iload_n rfl rfl ?_
    refine q_goto (t := 24) rfl (by decide) ?_
    refine q_iret rfl rfl ?_
    refine bk_inl ?_
    refine q_iret rfl rfl ?_
    have hI_26 := iw_0_11 (v := 0) hI_8 ⟨by decide, by decide⟩
    have h_27 : (up c_7 0 11 0) 0 11 = 0 := (up_e rfl)
    have h_28 : (up c_7 0 11 0) 3 3 = c_7 3 3 := (up_c (nn rfl))
    have h_29 : (up c_7 0 11 0) 3 4 = c_7 3 4 := (up_c (nn rfl))
    exact K (up c_7 0 11 0) (c P 0) hI_26 (fun a j hm => (up_b (Decidable.or_iff_not_imp_left.mpr (fun h1 h2 => hm (Or.inr (Or.inr (Or.inr (Or.inr ⟨Decidable.not_not.mp h1, h2⟩))))))).trans ((hF_9 a j (fun q => q.elim (fun h => hm (Or.inr (Or.inr (Or.inl h)))) (fun h => hm (Or.inr (Or.inr (Or.inr (Or.inl h))))))).trans ((hF_6 a j (fun h => hm (Or.inr (Or.inl h)))).trans (hF_3 a j (fun h => hm (Or.inl h)))))) ⟨by omega, by omega⟩ (by omega) (by omega)

set_option maxRecDepth 100000 in
set_option maxHeartbeats 4000000 in
theorem s_149x_l {sc : List Int32} {d P Q : Nat} {c : ME} {Z : AR → Prop} (hI : Iv 58 (-1) P Q c)  (K : ∀ (c2 : ME), Iv 0 (-1) P Q c2 → (∀ (a : Nat) (j : Int), ¬ ((a = 41 ∧ j = 20) ∨ (a = 41 ∧ j = 21) ∨ (a = 41 ∧ j = 22) ∨ (a = 41 ∧ j = 23) ∨ (a = 41 ∧ j = 30) ∨ (a = 41 ∧ j = 35) ∨ (a = 41 ∧ j = 36) ∨ (a = 41 ∧ j = 47) ∨ (a = 41 ∧ j = 48) ∨ (a = 41 ∧ j = 52) ∨ a = 47 ∨ a = 48 ∨ a = 49 ∨ a = 58 ∨ a = 64) → c2 a j = c a j) → ((c2 41 20 = c 41 16 ∧ c2 41 21 = c 41 17 ∧ c2 41 22 = c 41 18 ∧ c2 41 23 = c 41 19 ∧ c2 41 30 = 0 ∧ c2 41 35 = 0 ∧ c2 41 36 = 0 ∧ c2 41 47 = 0 ∧ c2 41 48 = 0 ∧ c2 41 52 = 0)) → (∀ j : Int, 0 ≤ j → j < 24 → c2 47 j = c 44 j) → (∀ j : Int, 0 ≤ j → j < 12 → c2 48 j = c 45 j) → (∀ j : Int, 0 ≤ j → j < 4 → c2 49 j = c 46 j) → Z (.inl (none), Wd P Q P P c2, 0, 0)) : ∀ n : Nat, (∀ (c2 : ME) (v1 : Int), Iv 58 (-1) P Q c2 → (∀ (a : Nat) (j : Int), ¬ ((a = 41 ∧ j = 20) ∨ (a = 41 ∧ j = 21) ∨ (a = 41 ∧ j = 22) ∨ (a = 41 ∧ j = 23) ∨ (a = 41 ∧ j = 30) ∨ (a = 41 ∧ j = 35) ∨ (a = 41 ∧ j = 36) ∨ (a = 41 ∧ j = 47) ∨ (a = 41 ∧ j = 48) ∨ (a = 41 ∧ j = 52) ∨ a = 47 ∨ a = 48 ∨ a = 49 ∨ a = 58 ∨ a = 64) → c2 a j = c a j) → 0 ≤ v1 ∧ v1 ≤ 4 → ((c2 41 20 = c 41 16 ∧ c2 41 21 = c 41 17 ∧ c2 41 22 = c 41 18 ∧ c2 41 23 = c 41 19 ∧ c2 41 30 = 0 ∧ c2 41 35 = 0 ∧ c2 41 36 = 0 ∧ c2 41 47 = 0 ∧ c2 41 48 = 0 ∧ c2 41 52 = 0)) → (∀ j : Int, 0 ≤ j → j < 24 → c2 47 j = c 44 j) → (∀ j : Int, 0 ≤ j → j < 12 → c2 48 j = c 45 j) → (∀ j : Int, 0 ≤ j → j < 4 → c2 49 j = c 46 j) → 137 - 2 * v1 < (n : Int) → Wp sc (d + 8) 149 105 [(0, .ref 41), (1, vi v1)] [] (Wd P Q P P c2) 0 0 Z) ∧ (∀ (c2 : ME) (v1 : Int), Iv 58 (-1) P Q c2 → (∀ (a : Nat) (j : Int), ¬ ((a = 41 ∧ j = 20) ∨ (a = 41 ∧ j = 21) ∨ (a = 41 ∧ j = 22) ∨ (a = 41 ∧ j = 23) ∨ (a = 41 ∧ j = 30) ∨ (a = 41 ∧ j = 35) ∨ (a = 41 ∧ j = 36) ∨ (a = 41 ∧ j = 47) ∨ (a = 41 ∧ j = 48) ∨ (a = 41 ∧ j = 52) ∨ a = 47 ∨ a = 48 ∨ a = 49 ∨ a = 58 ∨ a = 64) → c2 a j = c a j) → 0 ≤ v1 ∧ v1 ≤ 37 → (∀ j : Int, 0 ≤ j → j < v1 → j < 24 → c2 58 j ≤ 999) → ((c2 41 20 = c 41 16 ∧ c2 41 21 = c 41 17 ∧ c2 41 22 = c 41 18 ∧ c2 41 23 = c 41 19 ∧ c2 41 30 = 0 ∧ c2 41 35 = 0 ∧ c2 41 36 = 0 ∧ c2 41 47 = 0 ∧ c2 41 48 = 0 ∧ c2 41 52 = 0)) → (∀ j : Int, 0 ≤ j → j < 24 → c2 47 j = c 44 j) → (∀ j : Int, 0 ≤ j → j < 12 → c2 48 j = c 45 j) → (∀ j : Int, 0 ≤ j → j < 4 → c2 49 j = c 46 j) → 126 - 2 * v1 < (n : Int) → Wp sc (d + 8) 149 125 [(0, .ref 41), (1, vi v1)] [] (Wd P Q P P c2) 0 0 Z) ∧ (∀ (c2 : ME) (v1 : Int), Iv 58 (-1) P Q c2 → (∀ (a : Nat) (j : Int), ¬ ((a = 41 ∧ j = 20) ∨ (a = 41 ∧ j = 21) ∨ (a = 41 ∧ j = 22) ∨ (a = 41 ∧ j = 23) ∨ (a = 41 ∧ j = 30) ∨ (a = 41 ∧ j = 35) ∨ (a = 41 ∧ j = 36) ∨ (a = 41 ∧ j = 47) ∨ (a = 41 ∧ j = 48) ∨ (a = 41 ∧ j = 52) ∨ a = 47 ∨ a = 48 ∨ a = 49 ∨ a = 58 ∨ a = 64) → c2 a j = c a j) → 0 ≤ v1 ∧ v1 ≤ 24 → (∀ j : Int, 0 ≤ j → j < 24 → j < 24 → c2 58 j ≤ 999) → ((c2 41 20 = c 41 16 ∧ c2 41 21 = c 41 17 ∧ c2 41 22 = c 41 18 ∧ c2 41 23 = c 41 19 ∧ c2 41 30 = 0 ∧ c2 41 35 = 0 ∧ c2 41 36 = 0 ∧ c2 41 47 = 0 ∧ c2 41 48 = 0 ∧ c2 41 52 = 0)) → (∀ j : Int, 0 ≤ j → j < 24 → c2 47 j = c 44 j) → (∀ j : Int, 0 ≤ j → j < 12 → c2 48 j = c 45 j) → (∀ j : Int, 0 ≤ j → j < 4 → c2 49 j = c 46 j) → 49 - 2 * v1 < (n : Int) → Wp sc (d + 8) 149 146 [(0, .ref 41), (1, vi v1)] [] (Wd P Q P P c2) 0 0 Z)
  | 0 => by exact ⟨by (intro c2 v1 hI2 hF hv1 hx0 hx1 hx2 hx3 hm9; have hP := iv_P hI; have hQ := iv_Q hI; exfalso; omega), by (intro c2 v1 hI2 hF hv1 hx0 hx1 hx2 hx3 hx4 hm9; have hP := iv_P hI; have hQ := iv_Q hI; exfalso; omega), by (intro c2 v1 hI2 hF hv1 hx0 hx1 hx2 hx3 hx4 hm9; have hP := iv_P hI; have hQ := iv_Q hI; exfalso; omega)⟩
  | n + 1 => by
    have hP := iv_P hI
    have hQ := iv_Q hI
    have ih := s_149x_l (sc := sc) (d := d) hI K n
    refine ⟨?_, ?_, ?_⟩
    · skip
      intro c2 v1 hI2 hF hv1 hx0 hx1 hx2 hx3 hm9
      have h_1 := ir_41_16 hI
      have h_2 := ir_41_17 hI
      have h_3 := ir_41_18 hI
      have h_4 := ir_41_19 hI
      have h_5 := ir_41_20 hI2
      have h_6 := ir_41_21 hI2
      have h_7 := ir_41_22 hI2
      have h_8 := ir_41_23 hI2
      have h_9 := ir_41_30 hI2
      have h_10 := ir_41_35 hI2
      have h_11 := ir_41_36 hI2
      have h_12 := ir_41_47 hI2
      have h_13 := ir_41_48 hI2
      have h_14 := ir_41_52 hI2
      refine q_iload_n rfl rfl ?_
      refine q_iconst rfl ?_
      by_cases h_15 : v1 ≥ 4
      · refine v_ic_ge_t (t := 123) rfl (by decide) (by omega) ?_
        refine q_iconst rfl ?_
        refine q_istore_n rfl (by decide) ?_
        refine Wp_ls [(0, .ref 41), (1, vi 0)] (lsub_cons rfl (lsub_cons rfl lsub_nil)) ?_
        have hr_16 : ∀ j : Int, 0 ≤ j → j < 0 → j < 24 → c2 58 j ≤ 999 := by
          intro j hj1 hj2 hj3
          omega
        exact ih.2.1 c2 0 hI2 (fun a j hm => hF a j (fun q => q.elim (fun h => hm (Or.inl h)) (fun q => q.elim (fun h => hm (Or.inr (Or.inl h))) (fun q => q.elim (fun h => hm (Or.inr (Or.inr (Or.inl h)))) (fun q => q.elim (fun h => hm (Or.inr (Or.inr (Or.inr (Or.inl h))))) (fun q => q.elim (fun h => hm (Or.inr (Or.inr (Or.inr (Or.inr (Or.inl h)))))) (fun q => q.elim (fun h => hm (Or.inr (Or.inr (Or.inr (Or.inr (Or.inr (Or.inl h))))))) (fun q => q.elim (fun h => hm (Or.inr (Or.inr (Or.inr (Or.inr (Or.inr (Or.inr (Or.inl h)))))))) (fun q => q.elim (fun h => hm (Or.inr (Or.inr (Or.inr (Or.inr (Or.inr (Or.inr (Or.inr (Or.inl h))))))))) (fun q => q.elim (fun h => hm (Or.inr (Or.inr (Or.inr (Or.inr (Or.inr (Or.inr (Or.inr (Or.inr (Or.inl h)))))))))) (fun q => q.elim (fun h => hm (Or.inr (Or.inr (Or.inr (Or.inr (Or.inr (Or.inr (Or.inr (Or.inr (Or.inr (Or.inl h))))))))))) (fun q => q.elim (fun h => hm (Or.inr (Or.inr (Or.inr (Or.inr (Or.inr (Or.inr (Or.inr (Or.inr (Or.inr (Or.inr (Or.inl h)))))))))))) (fun q => q.elim (fun h => hm (Or.inr (Or.inr (Or.inr (Or.inr (Or.inr (Or.inr (Or.inr (Or.inr (Or.inr (Or.inr (Or.inr (Or.inl h))))))))))))) (fun q => q.elim (fun h => hm (Or.inr (Or.inr (Or.inr (Or.inr (Or.inr (Or.inr (Or.inr (Or.inr (Or.inr (Or.inr (Or.inr (Or.inr (Or.inl h)))))))))))))) (fun q => q.elim (fun h => hm (Or.inr (Or.inr (Or.inr (Or.inr (Or.inr (Or.inr (Or.inr (Or.inr (Or.inr (Or.inr (Or.inr (Or.inr (Or.inr (Or.inl h))))))))))))))) (fun h => hm (Or.inr (Or.inr (Or.inr (Or.inr (Or.inr (Or.inr (Or.inr (Or.inr (Or.inr (Or.inr (Or.inr (Or.inr (Or.inr (Or.inr h)))))))))))))))))))))))))))))) ⟨by decide, by decide⟩ hr_16 (by omega) (fun j h1 h2 => (hx1 j (by omega) (by omega))) (fun j h1 h2 => (hx2 j (by omega) (by omega))) (fun j h1 h2 => (hx3 j (by omega) (by omega))) (by omega)
      · refine v_ic_ge_f (t := 123) rfl (by decide) (by omega) ?_
        refine q_aload_n rfl rfl ?_
        refine v_gr (t := 64) rfl rfl rfl (by decide) rfl ?_
        refine q_iload_n rfl rfl ?_
        refine q_iconst rfl ?_
        refine v_is rfl rfl (by decide) (by decide) (by omega) ?_
        refine v_iinc (v := v1 + 1) rfl rfl (by decide) (by omega) ?_
        refine q_goto (t := 105) rfl (by decide) ?_
        have hI_17 := iw_64 (j := v1) (v := (-1)) hI2 ⟨by decide, by decide⟩
        refine Wp_ls [(0, .ref 41), (1, vi (v1 + 1))] (lsub_cons rfl (lsub_cons rfl lsub_nil)) ?_
        have h_18 : (up c2 64 v1 (-1)) 41 20 = c2 41 20 := (up_c (nn rfl))
        have h_19 : (up c2 64 v1 (-1)) 41 21 = c2 41 21 := (up_c (nn rfl))
        have h_20 : (up c2 64 v1 (-1)) 41 22 = c2 41 22 := (up_c (nn rfl))
        have h_21 : (up c2 64 v1 (-1)) 41 23 = c2 41 23 := (up_c (nn rfl))
        have h_22 : (up c2 64 v1 (-1)) 41 30 = c2 41 30 := (up_c (nn rfl))
        have h_23 : (up c2 64 v1 (-1)) 41 35 = c2 41 35 := (up_c (nn rfl))
        have h_24 : (up c2 64 v1 (-1)) 41 36 = c2 41 36 := (up_c (nn rfl))
        have h_25 : (up c2 64 v1 (-1)) 41 47 = c2 41 47 := (up_c (nn rfl))
        have h_26 : (up c2 64 v1 (-1)) 41 48 = c2 41 48 := (up_c (nn rfl))
        have h_27 : (up c2 64 v1 (-1)) 41 52 = c2 41 52 := (up_c (nn rfl))
        exact ih.1 (up c2 64 v1 (-1)) (v1 + 1) hI_17 (fun a j hm => (up_b (Decidable.or_iff_not_imp_left.mpr (fun h1 h2 => hm (Or.inr (Or.inr (Or.inr (Or.inr (Or.inr (Or.inr (Or.inr (Or.inr (Or.inr (Or.inr (Or.inr (Or.inr (Or.inr (Or.inr (Decidable.not_not.mp h1)))))))))))))))))).trans (hF a j (fun q => q.elim (fun h => hm (Or.inl h)) (fun q => q.elim (fun h => hm (Or.inr (Or.inl h))) (fun q => q.elim (fun h => hm (Or.inr (Or.inr (Or.inl h)))) (fun q => q.elim (fun h => hm (Or.inr (Or.inr (Or.inr (Or.inl h))))) (fun q => q.elim (fun h => hm (Or.inr (Or.inr (Or.inr (Or.inr (Or.inl h)))))) (fun q => q.elim (fun h => hm (Or.inr (Or.inr (Or.inr (Or.inr (Or.inr (Or.inl h))))))) (fun q => q.elim (fun h => hm (Or.inr (Or.inr (Or.inr (Or.inr (Or.inr (Or.inr (Or.inl h)))))))) (fun q => q.elim (fun h => hm (Or.inr (Or.inr (Or.inr (Or.inr (Or.inr (Or.inr (Or.inr (Or.inl h))))))))) (fun q => q.elim (fun h => hm (Or.inr (Or.inr (Or.inr (Or.inr (Or.inr (Or.inr (Or.inr (Or.inr (Or.inl h)))))))))) (fun q => q.elim (fun h => hm (Or.inr (Or.inr (Or.inr (Or.inr (Or.inr (Or.inr (Or.inr (Or.inr (Or.inr (Or.inl h))))))))))) (fun q => q.elim (fun h => hm (Or.inr (Or.inr (Or.inr (Or.inr (Or.inr (Or.inr (Or.inr (Or.inr (Or.inr (Or.inr (Or.inl h)))))))))))) (fun q => q.elim (fun h => hm (Or.inr (Or.inr (Or.inr (Or.inr (Or.inr (Or.inr (Or.inr (Or.inr (Or.inr (Or.inr (Or.inr (Or.inl h))))))))))))) (fun q => q.elim (fun h => hm (Or.inr (Or.inr (Or.inr (Or.inr (Or.inr (Or.inr (Or.inr (Or.inr (Or.inr (Or.inr (Or.inr (Or.inr (Or.inl h)))))))))))))) (fun q => q.elim (fun h => hm (Or.inr (Or.inr (Or.inr (Or.inr (Or.inr (Or.inr (Or.inr (Or.inr (Or.inr (Or.inr (Or.inr (Or.inr (Or.inr (Or.inl h))))))))))))))) (fun h => hm (Or.inr (Or.inr (Or.inr (Or.inr (Or.inr (Or.inr (Or.inr (Or.inr (Or.inr (Or.inr (Or.inr (Or.inr (Or.inr (Or.inr h))))))))))))))))))))))))))))))) ⟨by omega, by omega⟩ (by omega) (fun j h1 h2 => (up_c (nn rfl)).trans ((hx1 j (by omega) (by omega)))) (fun j h1 h2 => (up_c (nn rfl)).trans ((hx2 j (by omega) (by omega)))) (fun j h1 h2 => (up_c (nn rfl)).trans ((hx3 j (by omega) (by omega)))) (by omega)
    · skip
      intro c2 v1 hI2 hF hv1 hx0 hx1 hx2 hx3 hx4 hm9
      have h_28 := ir_41_16 hI
      have h_29 := ir_41_17 hI
      have h_30 := ir_41_18 hI
      have h_31 := ir_41_19 hI
      have h_32 := ir_41_20 hI2
      have h_33 := ir_41_21 hI2
      have h_34 := ir_41_22 hI2
      have h_35 := ir_41_23 hI2
      have h_36 := ir_41_30 hI2
      have h_37 := ir_41_35 hI2
      have h_38 := ir_41_36 hI2
      have h_39 := ir_41_47 hI2
      have h_40 := ir_41_48 hI2
      have h_41 := ir_41_52 hI2
      refine q_iload_n rfl rfl ?_
      refine v_bip rfl (by decide) ?_
      by_cases h_42 : v1 ≥ 37
      · refine v_ic_ge_t (t := 144) rfl (by decide) (by omega) ?_
        refine q_iconst rfl ?_
        refine q_istore_n rfl (by decide) ?_
        refine Wp_ls [(0, .ref 41), (1, vi 0)] (lsub_cons rfl (lsub_cons rfl lsub_nil)) ?_
        have hr_43 : ∀ j : Int, 0 ≤ j → j < 24 → j < 24 → c2 58 j ≤ 999 := fun j h1 h2 h3 => hx0 j h1 (by omega) h3
        exact ih.2.2 c2 0 hI2 (fun a j hm => hF a j (fun q => q.elim (fun h => hm (Or.inl h)) (fun q => q.elim (fun h => hm (Or.inr (Or.inl h))) (fun q => q.elim (fun h => hm (Or.inr (Or.inr (Or.inl h)))) (fun q => q.elim (fun h => hm (Or.inr (Or.inr (Or.inr (Or.inl h))))) (fun q => q.elim (fun h => hm (Or.inr (Or.inr (Or.inr (Or.inr (Or.inl h)))))) (fun q => q.elim (fun h => hm (Or.inr (Or.inr (Or.inr (Or.inr (Or.inr (Or.inl h))))))) (fun q => q.elim (fun h => hm (Or.inr (Or.inr (Or.inr (Or.inr (Or.inr (Or.inr (Or.inl h)))))))) (fun q => q.elim (fun h => hm (Or.inr (Or.inr (Or.inr (Or.inr (Or.inr (Or.inr (Or.inr (Or.inl h))))))))) (fun q => q.elim (fun h => hm (Or.inr (Or.inr (Or.inr (Or.inr (Or.inr (Or.inr (Or.inr (Or.inr (Or.inl h)))))))))) (fun q => q.elim (fun h => hm (Or.inr (Or.inr (Or.inr (Or.inr (Or.inr (Or.inr (Or.inr (Or.inr (Or.inr (Or.inl h))))))))))) (fun q => q.elim (fun h => hm (Or.inr (Or.inr (Or.inr (Or.inr (Or.inr (Or.inr (Or.inr (Or.inr (Or.inr (Or.inr (Or.inl h)))))))))))) (fun q => q.elim (fun h => hm (Or.inr (Or.inr (Or.inr (Or.inr (Or.inr (Or.inr (Or.inr (Or.inr (Or.inr (Or.inr (Or.inr (Or.inl h))))))))))))) (fun q => q.elim (fun h => hm (Or.inr (Or.inr (Or.inr (Or.inr (Or.inr (Or.inr (Or.inr (Or.inr (Or.inr (Or.inr (Or.inr (Or.inr (Or.inl h)))))))))))))) (fun q => q.elim (fun h => hm (Or.inr (Or.inr (Or.inr (Or.inr (Or.inr (Or.inr (Or.inr (Or.inr (Or.inr (Or.inr (Or.inr (Or.inr (Or.inr (Or.inl h))))))))))))))) (fun h => hm (Or.inr (Or.inr (Or.inr (Or.inr (Or.inr (Or.inr (Or.inr (Or.inr (Or.inr (Or.inr (Or.inr (Or.inr (Or.inr (Or.inr h)))))))))))))))))))))))))))))) ⟨by decide, by decide⟩ hr_43 (by omega) (fun j h1 h2 => (hx2 j (by omega) (by omega))) (fun j h1 h2 => (hx3 j (by omega) (by omega))) (fun j h1 h2 => (hx4 j (by omega) (by omega))) (by omega)
      · refine v_ic_ge_f (t := 144) rfl (by decide) (by omega) ?_
        refine q_aload_n rfl rfl ?_
        refine v_gr (t := 58) rfl rfl rfl (by decide) rfl ?_
        refine q_iload_n rfl rfl ?_
        refine q_iconst rfl ?_
        refine v_is rfl rfl (by decide) (by decide) (by omega) ?_
        refine v_iinc (v := v1 + 1) rfl rfl (by decide) (by omega) ?_
        refine q_goto (t := 125) rfl (by decide) ?_
        have hI_44 := iw_row (a := 58) (j := v1) (v := 0) hI2 (by omega) (Or.inl rfl) ⟨by omega, by omega, by omega⟩
        refine Wp_ls [(0, .ref 41), (1, vi (v1 + 1))] (lsub_cons rfl (lsub_cons rfl lsub_nil)) ?_
        have h_45 : (up c2 58 v1 0) 41 20 = c2 41 20 := (up_c (nn rfl))
        have h_46 : (up c2 58 v1 0) 41 21 = c2 41 21 := (up_c (nn rfl))
        have h_47 : (up c2 58 v1 0) 41 22 = c2 41 22 := (up_c (nn rfl))
        have h_48 : (up c2 58 v1 0) 41 23 = c2 41 23 := (up_c (nn rfl))
        have h_49 : (up c2 58 v1 0) 41 30 = c2 41 30 := (up_c (nn rfl))
        have h_50 : (up c2 58 v1 0) 41 35 = c2 41 35 := (up_c (nn rfl))
        have h_51 : (up c2 58 v1 0) 41 36 = c2 41 36 := (up_c (nn rfl))
        have h_52 : (up c2 58 v1 0) 41 47 = c2 41 47 := (up_c (nn rfl))
        have h_53 : (up c2 58 v1 0) 41 48 = c2 41 48 := (up_c (nn rfl))
        have h_54 : (up c2 58 v1 0) 41 52 = c2 41 52 := (up_c (nn rfl))
        have hr_55 : ∀ j : Int, 0 ≤ j → j < v1 + 1 → j < 24 → (up c2 58 v1 0) 58 j ≤ 999 := by
          intro j hj1 hj2 hj3
          by_cases e9 : j = v1
          · have q9 : (up c2 58 v1 0) 58 j = 0 := up_e e9
            rw [q9]
            omega
          · have q9 : (up c2 58 v1 0) 58 j = c2 58 j := up_n e9
            rw [q9]
            exact hx0 j hj1 (by omega) hj3
        exact ih.2.1 (up c2 58 v1 0) (v1 + 1) hI_44 (fun a j hm => (up_b (Decidable.or_iff_not_imp_left.mpr (fun h1 h2 => hm (Or.inr (Or.inr (Or.inr (Or.inr (Or.inr (Or.inr (Or.inr (Or.inr (Or.inr (Or.inr (Or.inr (Or.inr (Or.inr (Or.inl (Decidable.not_not.mp h1)))))))))))))))))).trans (hF a j (fun q => q.elim (fun h => hm (Or.inl h)) (fun q => q.elim (fun h => hm (Or.inr (Or.inl h))) (fun q => q.elim (fun h => hm (Or.inr (Or.inr (Or.inl h)))) (fun q => q.elim (fun h => hm (Or.inr (Or.inr (Or.inr (Or.inl h))))) (fun q => q.elim (fun h => hm (Or.inr (Or.inr (Or.inr (Or.inr (Or.inl h)))))) (fun q => q.elim (fun h => hm (Or.inr (Or.inr (Or.inr (Or.inr (Or.inr (Or.inl h))))))) (fun q => q.elim (fun h => hm (Or.inr (Or.inr (Or.inr (Or.inr (Or.inr (Or.inr (Or.inl h)))))))) (fun q => q.elim (fun h => hm (Or.inr (Or.inr (Or.inr (Or.inr (Or.inr (Or.inr (Or.inr (Or.inl h))))))))) (fun q => q.elim (fun h => hm (Or.inr (Or.inr (Or.inr (Or.inr (Or.inr (Or.inr (Or.inr (Or.inr (Or.inl h)))))))))) (fun q => q.elim (fun h => hm (Or.inr (Or.inr (Or.inr (Or.inr (Or.inr (Or.inr (Or.inr (Or.inr (Or.inr (Or.inl h))))))))))) (fun q => q.elim (fun h => hm (Or.inr (Or.inr (Or.inr (Or.inr (Or.inr (Or.inr (Or.inr (Or.inr (Or.inr (Or.inr (Or.inl h)))))))))))) (fun q => q.elim (fun h => hm (Or.inr (Or.inr (Or.inr (Or.inr (Or.inr (Or.inr (Or.inr (Or.inr (Or.inr (Or.inr (Or.inr (Or.inl h))))))))))))) (fun q => q.elim (fun h => hm (Or.inr (Or.inr (Or.inr (Or.inr (Or.inr (Or.inr (Or.inr (Or.inr (Or.inr (Or.inr (Or.inr (Or.inr (Or.inl h)))))))))))))) (fun q => q.elim (fun h => hm (Or.inr (Or.inr (Or.inr (Or.inr (Or.inr (Or.inr (Or.inr (Or.inr (Or.inr (Or.inr (Or.inr (Or.inr (Or.inr (Or.inl h))))))))))))))) (fun h => hm (Or.inr (Or.inr (Or.inr (Or.inr (Or.inr (Or.inr (Or.inr (Or.inr (Or.inr (Or.inr (Or.inr (Or.inr (Or.inr (Or.inr h))))))))))))))))))))))))))))))) ⟨by omega, by omega⟩ hr_55 (by omega) (fun j h1 h2 => (up_c (nn rfl)).trans ((hx2 j (by omega) (by omega)))) (fun j h1 h2 => (up_c (nn rfl)).trans ((hx3 j (by omega) (by omega)))) (fun j h1 h2 => (up_c (nn rfl)).trans ((hx4 j (by omega) (by omega)))) (by omega)
    · skip
      intro c2 v1 hI2 hF hv1 hx0 hx1 hx2 hx3 hx4 hm9
      have h_56 := ir_41_16 hI
      have h_57 := ir_41_17 hI
      have h_58 := ir_41_18 hI
      have h_59 := ir_41_19 hI
      have h_60 := ir_41_20 hI2
      have h_61 := ir_41_21 hI2
      have h_62 := ir_41_22 hI2
      have h_63 := ir_41_23 hI2
      have h_64 := ir_41_30 hI2
      have h_65 := ir_41_35 hI2
      have h_66 := ir_41_36 hI2
      have h_67 := ir_41_47 hI2
      have h_68 := ir_41_48 hI2
      have h_69 := ir_41_52 hI2
      refine q_iload_n rfl rfl ?_
      refine q_iconst rfl ?_
      refine q_aload_n rfl rfl ?_
      refine v_gi (z := 20) (v := c2 41 20) rfl rfl rfl (by decide) rfl rfl rfl ?_
      refine v_imul (v := 4 * c2 41 20) rfl (by omega) ?_
      by_cases h_70 : v1 ≥ 4 * c2 41 20
      · refine v_ic_ge_t (t := 174) rfl (by decide) (by omega) ?_
        refine q_vret rfl rfl ?_
        have hI_71 := iv_close hI2 (fun j hj => by
          have q9 : j % 4 = 0 ∧ 0 ≤ j ∧ j < 24 := hj
          have q0 := hx0 j (by omega) (by omega) (by omega)
          have q1 := hx0 (j + 1) (by omega) (by omega) (by omega)
          have q2 := hx0 (j + 2) (by omega) (by omega) (by omega)
          have q3 := hx0 (j + 3) (by omega) (by omega) (by omega)
          omega)
        exact K c2 hI_71 (fun a j hm => hF a j (fun q => q.elim (fun h => hm (Or.inl h)) (fun q => q.elim (fun h => hm (Or.inr (Or.inl h))) (fun q => q.elim (fun h => hm (Or.inr (Or.inr (Or.inl h)))) (fun q => q.elim (fun h => hm (Or.inr (Or.inr (Or.inr (Or.inl h))))) (fun q => q.elim (fun h => hm (Or.inr (Or.inr (Or.inr (Or.inr (Or.inl h)))))) (fun q => q.elim (fun h => hm (Or.inr (Or.inr (Or.inr (Or.inr (Or.inr (Or.inl h))))))) (fun q => q.elim (fun h => hm (Or.inr (Or.inr (Or.inr (Or.inr (Or.inr (Or.inr (Or.inl h)))))))) (fun q => q.elim (fun h => hm (Or.inr (Or.inr (Or.inr (Or.inr (Or.inr (Or.inr (Or.inr (Or.inl h))))))))) (fun q => q.elim (fun h => hm (Or.inr (Or.inr (Or.inr (Or.inr (Or.inr (Or.inr (Or.inr (Or.inr (Or.inl h)))))))))) (fun q => q.elim (fun h => hm (Or.inr (Or.inr (Or.inr (Or.inr (Or.inr (Or.inr (Or.inr (Or.inr (Or.inr (Or.inl h))))))))))) (fun q => q.elim (fun h => hm (Or.inr (Or.inr (Or.inr (Or.inr (Or.inr (Or.inr (Or.inr (Or.inr (Or.inr (Or.inr (Or.inl h)))))))))))) (fun q => q.elim (fun h => hm (Or.inr (Or.inr (Or.inr (Or.inr (Or.inr (Or.inr (Or.inr (Or.inr (Or.inr (Or.inr (Or.inr (Or.inl h))))))))))))) (fun q => q.elim (fun h => hm (Or.inr (Or.inr (Or.inr (Or.inr (Or.inr (Or.inr (Or.inr (Or.inr (Or.inr (Or.inr (Or.inr (Or.inr (Or.inl h)))))))))))))) (fun q => q.elim (fun h => hm (Or.inr (Or.inr (Or.inr (Or.inr (Or.inr (Or.inr (Or.inr (Or.inr (Or.inr (Or.inr (Or.inr (Or.inr (Or.inr (Or.inl h))))))))))))))) (fun h => hm (Or.inr (Or.inr (Or.inr (Or.inr (Or.inr (Or.inr (Or.inr (Or.inr (Or.inr (Or.inr (Or.inr (Or.inr (Or.inr (Or.inr h)))))))))))))))))))))))))))))) (by omega) (fun j h1 h2 => (hx2 j (by omega) (by omega))) (fun j h1 h2 => (hx3 j (by omega) (by omega))) (fun j h1 h2 => (hx4 j (by omega) (by omega)))
      · refine v_ic_ge_f (t := 174) rfl (by decide) (by omega) ?_
        refine q_aload_n rfl rfl ?_
        refine v_gr (t := 58) rfl rfl rfl (by decide) rfl ?_
        refine q_iload_n rfl rfl ?_
        refine q_aload_n rfl rfl ?_
        refine v_gr (t := 47) rfl rfl rfl (by decide) rfl ?_
        refine q_iload_n rfl rfl ?_
        have h_72 := ir_47 hI2 v1
        refine v_ia (v := c2 47 v1) rfl rfl (by decide) (by decide) (by omega) rfl ?_
        refine v_is rfl rfl (by decide) (by decide) (by omega) ?_
        refine v_iinc (v := v1 + 1) rfl rfl (by decide) (by omega) ?_
        refine q_goto (t := 146) rfl (by decide) ?_
        have hI_73 := iw_row (a := 58) (j := v1) (v := c2 47 v1) hI2 (by omega) (Or.inl rfl) ⟨by omega, by omega, by omega⟩
        refine Wp_ls [(0, .ref 41), (1, vi (v1 + 1))] (lsub_cons rfl (lsub_cons rfl lsub_nil)) ?_
        have h_74 : (up c2 58 v1 (c2 47 v1)) 41 20 = c2 41 20 := (up_c (nn rfl))
        have h_75 : (up c2 58 v1 (c2 47 v1)) 41 21 = c2 41 21 := (up_c (nn rfl))
        have h_76 : (up c2 58 v1 (c2 47 v1)) 41 22 = c2 41 22 := (up_c (nn rfl))
        have h_77 : (up c2 58 v1 (c2 47 v1)) 41 23 = c2 41 23 := (up_c (nn rfl))
        have h_78 : (up c2 58 v1 (c2 47 v1)) 41 30 = c2 41 30 := (up_c (nn rfl))
        have h_79 : (up c2 58 v1 (c2 47 v1)) 41 35 = c2 41 35 := (up_c (nn rfl))
        have h_80 : (up c2 58 v1 (c2 47 v1)) 41 36 = c2 41 36 := (up_c (nn rfl))
        have h_81 : (up c2 58 v1 (c2 47 v1)) 41 47 = c2 41 47 := (up_c (nn rfl))
        have h_82 : (up c2 58 v1 (c2 47 v1)) 41 48 = c2 41 48 := (up_c (nn rfl))
        have h_83 : (up c2 58 v1 (c2 47 v1)) 41 52 = c2 41 52 := (up_c (nn rfl))
        have hr_84 : ∀ j : Int, 0 ≤ j → j < 24 → j < 24 → (up c2 58 v1 (c2 47 v1)) 58 j ≤ 999 := by
          intro j hj1 hj2 hj3
          by_cases e9 : j = v1
          · have q9 : (up c2 58 v1 (c2 47 v1)) 58 j = c2 47 v1 := up_e e9
            rw [q9]
            omega
          · have q9 : (up c2 58 v1 (c2 47 v1)) 58 j = c2 58 j := up_n e9
            rw [q9]
            exact hx0 j hj1 (by omega) hj3
        exact ih.2.2 (up c2 58 v1 (c2 47 v1)) (v1 + 1) hI_73 (fun a j hm => (up_b (Decidable.or_iff_not_imp_left.mpr (fun h1 h2 => hm (Or.inr (Or.inr (Or.inr (Or.inr (Or.inr (Or.inr (Or.inr (Or.inr (Or.inr (Or.inr (Or.inr (Or.inr (Or.inr (Or.inl (Decidable.not_not.mp h1)))))))))))))))))).trans (hF a j (fun q => q.elim (fun h => hm (Or.inl h)) (fun q => q.elim (fun h => hm (Or.inr (Or.inl h))) (fun q => q.elim (fun h => hm (Or.inr (Or.inr (Or.inl h)))) (fun q => q.elim (fun h => hm (Or.inr (Or.inr (Or.inr (Or.inl h))))) (fun q => q.elim (fun h => hm (Or.inr (Or.inr (Or.inr (Or.inr (Or.inl h)))))) (fun q => q.elim (fun h => hm (Or.inr (Or.inr (Or.inr (Or.inr (Or.inr (Or.inl h))))))) (fun q => q.elim (fun h => hm (Or.inr (Or.inr (Or.inr (Or.inr (Or.inr (Or.inr (Or.inl h)))))))) (fun q => q.elim (fun h => hm (Or.inr (Or.inr (Or.inr (Or.inr (Or.inr (Or.inr (Or.inr (Or.inl h))))))))) (fun q => q.elim (fun h => hm (Or.inr (Or.inr (Or.inr (Or.inr (Or.inr (Or.inr (Or.inr (Or.inr (Or.inl h)))))))))) (fun q => q.elim (fun h => hm (Or.inr (Or.inr (Or.inr (Or.inr (Or.inr (Or.inr (Or.inr (Or.inr (Or.inr (Or.inl h))))))))))) (fun q => q.elim (fun h => hm (Or.inr (Or.inr (Or.inr (Or.inr (Or.inr (Or.inr (Or.inr (Or.inr (Or.inr (Or.inr (Or.inl h)))))))))))) (fun q => q.elim (fun h => hm (Or.inr (Or.inr (Or.inr (Or.inr (Or.inr (Or.inr (Or.inr (Or.inr (Or.inr (Or.inr (Or.inr (Or.inl h))))))))))))) (fun q => q.elim (fun h => hm (Or.inr (Or.inr (Or.inr (Or.inr (Or.inr (Or.inr (Or.inr (Or.inr (Or.inr (Or.inr (Or.inr (Or.inr (Or.inl h)))))))))))))) (fun q => q.elim (fun h => hm (Or.inr (Or.inr (Or.inr (Or.inr (Or.inr (Or.inr (Or.inr (Or.inr (Or.inr (Or.inr (Or.inr (Or.inr (Or.inr (Or.inl h))))))))))))))) (fun h => hm (Or.inr (Or.inr (Or.inr (Or.inr (Or.inr (Or.inr (Or.inr (Or.inr (Or.inr (Or.inr (Or.inr (Or.inr (Or.inr (Or.inr h))))))))))))))))))))))))))))))) ⟨by omega, by omega⟩ hr_84 (by omega) (fun j h1 h2 => (up_c (nn rfl)).trans ((hx2 j (by omega) (by omega)))) (fun j h1 h2 => (up_c (nn rfl)).trans ((hx3 j (by omega) (by omega)))) (fun j h1 h2 => (up_c (nn rfl)).trans ((hx4 j (by omega) (by omega)))) (by omega)
set_option maxRecDepth 100000 in
set_option maxHeartbeats 4000000 in
theorem s_149x {sc : List Int32} {d P Q : Nat} {c : ME} {Z : AR → Prop} (hI : Iv 58 (-1) P Q c)  (K : ∀ (c2 : ME), Iv 0 (-1) P Q c2 → (∀ (a : Nat) (j : Int), ¬ ((a = 41 ∧ j = 20) ∨ (a = 41 ∧ j = 21) ∨ (a = 41 ∧ j = 22) ∨ (a = 41 ∧ j = 23) ∨ (a = 41 ∧ j = 30) ∨ (a = 41 ∧ j = 35) ∨ (a = 41 ∧ j = 36) ∨ (a = 41 ∧ j = 47) ∨ (a = 41 ∧ j = 48) ∨ (a = 41 ∧ j = 52) ∨ a = 47 ∨ a = 48 ∨ a = 49 ∨ a = 58 ∨ a = 64) → c2 a j = c a j) → ((c2 41 20 = c 41 16 ∧ c2 41 21 = c 41 17 ∧ c2 41 22 = c 41 18 ∧ c2 41 23 = c 41 19 ∧ c2 41 30 = 0 ∧ c2 41 35 = 0 ∧ c2 41 36 = 0 ∧ c2 41 47 = 0 ∧ c2 41 48 = 0 ∧ c2 41 52 = 0)) → (∀ j : Int, 0 ≤ j → j < 24 → c2 47 j = c 44 j) → (∀ j : Int, 0 ≤ j → j < 12 → c2 48 j = c 45 j) → (∀ j : Int, 0 ≤ j → j < 4 → c2 49 j = c 46 j) → Z (.inl (none), Wd P Q P P c2, 0, 0)) : Wp sc (d + 8) 149 0 [(0, .ref 41)] [] (Wd P Q P P c) 0 0 Z := by
  have hP := iv_P hI
  have hQ := iv_Q hI
  refine q_aload_n rfl rfl ?_
  refine q_aload_n rfl rfl ?_
  have h_85 := ir_41_16 hI
  refine v_gi (z := 16) (v := c 41 16) rfl rfl rfl (by decide) rfl rfl rfl ?_
  refine v_pi (z := 20) rfl rfl rfl (by decide) rfl rfl rfl (by decide) ?_
  refine q_aload_n rfl rfl ?_
  refine q_aload_n rfl rfl ?_
  have h_86 := ir_41_17 hI
  refine v_gi (z := 17) (v := c 41 17) rfl rfl rfl (by decide) rfl rfl (up_n (by decide)) ?_
  refine v_pi (z := 21) rfl rfl rfl (by decide) rfl rfl rfl (by decide) ?_
  refine q_aload_n rfl rfl ?_
  refine q_aload_n rfl rfl ?_
  have h_87 := ir_41_18 hI
  refine v_gi (z := 18) (v := c 41 18) rfl rfl rfl (by decide) rfl rfl ((up_n (by decide)).trans (up_n (by decide))) ?_
  refine v_pi (z := 22) rfl rfl rfl (by decide) rfl rfl rfl (by decide) ?_
  refine q_aload_n rfl rfl ?_
  refine q_aload_n rfl rfl ?_
  have h_88 := ir_41_19 hI
  refine v_gi (z := 19) (v := c 41 19) rfl rfl rfl (by decide) rfl rfl ((up_n (by decide)).trans ((up_n (by decide)).trans (up_n (by decide)))) ?_
  refine v_pi (z := 23) rfl rfl rfl (by decide) rfl rfl rfl (by decide) ?_
  refine q_aload_n rfl rfl ?_
  refine q_aload_n rfl rfl ?_
  refine v_gr (t := 44) rfl rfl rfl (by decide) rfl ?_
  refine q_aload_n rfl rfl ?_
  refine v_gr (t := 47) rfl rfl rfl (by decide) rfl ?_
  refine v_bip rfl (by decide) ?_
  refine v_cv rfl rfl rfl rfl (by decide) ⟨⟨rfl, rfl⟩, by decide, rfl⟩ (Nat.le_of_ble_eq_true rfl) (Nat.le_of_ble_eq_true rfl) (s_148 (f := 44) (t := 47) (nf := 24) (nt := 24) (n := 24) rfl rfl (by decide) (by decide) (by decide) (by decide) (by decide) (by omega) ?_)
  refine bk_inl ?_
  refine q_aload_n rfl rfl ?_
  refine q_aload_n rfl rfl ?_
  refine v_gr (t := 45) rfl rfl rfl (by decide) rfl ?_
  refine q_aload_n rfl rfl ?_
  refine v_gr (t := 48) rfl rfl rfl (by decide) rfl ?_
  refine v_bip rfl (by decide) ?_
  refine v_cv rfl rfl rfl rfl (by decide) ⟨⟨rfl, rfl⟩, by decide, rfl⟩ (Nat.le_of_ble_eq_true rfl) (Nat.le_of_ble_eq_true rfl) (s_148 (f := 45) (t := 48) (nf := 12) (nt := 12) (n := 12) rfl rfl (by decide) (by decide) (by decide) (by decide) (by decide) (by omega) ?_)
  refine bk_inl ?_
  refine q_aload_n rfl rfl ?_
  refine q_aload_n rfl rfl ?_
  refine v_gr (t := 46) rfl rfl rfl (by decide) rfl ?_
  refine q_aload_n rfl rfl ?_
  refine v_gr (t := 49) rfl rfl rfl (by decide) rfl ?_
  refine q_iconst rfl ?_
  refine v_cv rfl rfl rfl rfl (by decide) ⟨⟨rfl, rfl⟩, by decide, rfl⟩ (Nat.le_of_ble_eq_true rfl) (Nat.le_of_ble_eq_true rfl) (s_148 (f := 46) (t := 49) (nf := 4) (nt := 4) (n := 4) rfl rfl (by decide) (by decide) (by decide) (by decide) (by decide) (by omega) ?_)
  refine bk_inl ?_
  refine q_aload_n rfl rfl ?_
  refine q_iconst rfl ?_
  refine v_pi (z := 30) rfl rfl rfl (by decide) rfl rfl rfl (by decide) ?_
  refine q_aload_n rfl rfl ?_
  refine q_iconst rfl ?_
  refine v_pi (z := 47) rfl rfl rfl (by decide) rfl rfl rfl (by decide) ?_
  refine q_aload_n rfl rfl ?_
  refine q_iconst rfl ?_
  refine v_pi (z := 48) rfl rfl rfl (by decide) rfl rfl rfl (by decide) ?_
  refine q_aload_n rfl rfl ?_
  refine q_iconst rfl ?_
  refine v_pi (z := 35) rfl rfl rfl (by decide) rfl rfl rfl (by decide) ?_
  refine q_aload_n rfl rfl ?_
  refine q_iconst rfl ?_
  refine v_pi (z := 52) rfl rfl rfl (by decide) rfl rfl rfl (by decide) ?_
  refine q_aload_n rfl rfl ?_
  refine q_iconst rfl ?_
  refine v_pi (z := 36) rfl rfl rfl (by decide) rfl rfl rfl (by decide) ?_
  refine q_iconst rfl ?_
  refine q_istore_n rfl (by decide) ?_
  have hI_89 := iw_41_20 (v := c 41 16) hI ⟨by omega, by omega⟩
  have hI_90 := iw_41_21 (v := c 41 17) hI_89 ⟨by omega, by omega⟩
  have hI_91 := iw_41_22 (v := c 41 18) hI_90 ⟨by omega, by omega⟩
  have hI_92 := iw_41_23 (v := c 41 19) hI_91 ⟨by omega, by omega⟩
  have hI_93 := cp_44_47 hI_92
  have hI_94 := cp_45_48 hI_93
  have hI_95 := cp_46_49 hI_94
  have hI_96 := iw_codes0 hI_95
  have hI_97 := iw_41_47 (v := 0) hI_96 ⟨by decide, by decide⟩
  have hI_98 := iw_41_48 (v := 0) hI_97 ⟨by decide, by decide⟩
  have hI_99 := iw_41_35 (v := 0) hI_98 ⟨by decide, by decide⟩
  have hI_100 := iw_41_52 (v := 0) hI_99 ⟨by decide, by decide⟩
  have hI_101 := iw_41_36 (v := 0) hI_100 ⟨by decide, by decide⟩
  refine Wp_ls [(0, .ref 41), (1, vi 0)] (lsub_cons rfl (lsub_cons rfl lsub_nil)) ?_
  have h_102 : (up (up (up (up (up (up (upc (upc (upc (up (up (up (up c 41 20 (c 41 16)) 41 21 (c 41 17)) 41 22 (c 41 18)) 41 23 (c 41 19)) 44 0 47 0 24) 45 0 48 0 12) 46 0 49 0 4) 41 30 0) 41 47 0) 41 48 0) 41 35 0) 41 52 0) 41 36 0) 41 20 = c 41 16 := ((up_n (by decide)).trans ((up_n (by decide)).trans ((up_n (by decide)).trans ((up_n (by decide)).trans ((up_n (by decide)).trans ((up_n (by decide)).trans ((upc_c (by omega)).trans ((upc_c (by omega)).trans ((upc_c (by omega)).trans ((up_n (by decide)).trans ((up_n (by decide)).trans ((up_n (by decide)).trans (up_e rfl)))))))))))))
  have h_103 : (up (up (up (up (up (up (upc (upc (upc (up (up (up (up c 41 20 (c 41 16)) 41 21 (c 41 17)) 41 22 (c 41 18)) 41 23 (c 41 19)) 44 0 47 0 24) 45 0 48 0 12) 46 0 49 0 4) 41 30 0) 41 47 0) 41 48 0) 41 35 0) 41 52 0) 41 36 0) 41 21 = c 41 17 := ((up_n (by decide)).trans ((up_n (by decide)).trans ((up_n (by decide)).trans ((up_n (by decide)).trans ((up_n (by decide)).trans ((up_n (by decide)).trans ((upc_c (by omega)).trans ((upc_c (by omega)).trans ((upc_c (by omega)).trans ((up_n (by decide)).trans ((up_n (by decide)).trans (up_e rfl))))))))))))
  have h_104 : (up (up (up (up (up (up (upc (upc (upc (up (up (up (up c 41 20 (c 41 16)) 41 21 (c 41 17)) 41 22 (c 41 18)) 41 23 (c 41 19)) 44 0 47 0 24) 45 0 48 0 12) 46 0 49 0 4) 41 30 0) 41 47 0) 41 48 0) 41 35 0) 41 52 0) 41 36 0) 41 22 = c 41 18 := ((up_n (by decide)).trans ((up_n (by decide)).trans ((up_n (by decide)).trans ((up_n (by decide)).trans ((up_n (by decide)).trans ((up_n (by decide)).trans ((upc_c (by omega)).trans ((upc_c (by omega)).trans ((upc_c (by omega)).trans ((up_n (by decide)).trans (up_e rfl)))))))))))
  have h_105 : (up (up (up (up (up (up (upc (upc (upc (up (up (up (up c 41 20 (c 41 16)) 41 21 (c 41 17)) 41 22 (c 41 18)) 41 23 (c 41 19)) 44 0 47 0 24) 45 0 48 0 12) 46 0 49 0 4) 41 30 0) 41 47 0) 41 48 0) 41 35 0) 41 52 0) 41 36 0) 41 23 = c 41 19 := ((up_n (by decide)).trans ((up_n (by decide)).trans ((up_n (by decide)).trans ((up_n (by decide)).trans ((up_n (by decide)).trans ((up_n (by decide)).trans ((upc_c (by omega)).trans ((upc_c (by omega)).trans ((upc_c (by omega)).trans (up_e rfl))))))))))
  have h_106 : (up (up (up (up (up (up (upc (upc (upc (up (up (up (up c 41 20 (c 41 16)) 41 21 (c 41 17)) 41 22 (c 41 18)) 41 23 (c 41 19)) 44 0 47 0 24) 45 0 48 0 12) 46 0 49 0 4) 41 30 0) 41 47 0) 41 48 0) 41 35 0) 41 52 0) 41 36 0) 41 30 = 0 := ((up_n (by decide)).trans ((up_n (by decide)).trans ((up_n (by decide)).trans ((up_n (by decide)).trans ((up_n (by decide)).trans (up_e rfl))))))
  have h_107 : (up (up (up (up (up (up (upc (upc (upc (up (up (up (up c 41 20 (c 41 16)) 41 21 (c 41 17)) 41 22 (c 41 18)) 41 23 (c 41 19)) 44 0 47 0 24) 45 0 48 0 12) 46 0 49 0 4) 41 30 0) 41 47 0) 41 48 0) 41 35 0) 41 52 0) 41 36 0) 41 35 = 0 := ((up_n (by decide)).trans ((up_n (by decide)).trans (up_e rfl)))
  have h_108 : (up (up (up (up (up (up (upc (upc (upc (up (up (up (up c 41 20 (c 41 16)) 41 21 (c 41 17)) 41 22 (c 41 18)) 41 23 (c 41 19)) 44 0 47 0 24) 45 0 48 0 12) 46 0 49 0 4) 41 30 0) 41 47 0) 41 48 0) 41 35 0) 41 52 0) 41 36 0) 41 36 = 0 := (up_e rfl)
  have h_109 : (up (up (up (up (up (up (upc (upc (upc (up (up (up (up c 41 20 (c 41 16)) 41 21 (c 41 17)) 41 22 (c 41 18)) 41 23 (c 41 19)) 44 0 47 0 24) 45 0 48 0 12) 46 0 49 0 4) 41 30 0) 41 47 0) 41 48 0) 41 35 0) 41 52 0) 41 36 0) 41 47 = 0 := ((up_n (by decide)).trans ((up_n (by decide)).trans ((up_n (by decide)).trans ((up_n (by decide)).trans (up_e rfl)))))
  have h_110 : (up (up (up (up (up (up (upc (upc (upc (up (up (up (up c 41 20 (c 41 16)) 41 21 (c 41 17)) 41 22 (c 41 18)) 41 23 (c 41 19)) 44 0 47 0 24) 45 0 48 0 12) 46 0 49 0 4) 41 30 0) 41 47 0) 41 48 0) 41 35 0) 41 52 0) 41 36 0) 41 48 = 0 := ((up_n (by decide)).trans ((up_n (by decide)).trans ((up_n (by decide)).trans (up_e rfl))))
  have h_111 : (up (up (up (up (up (up (upc (upc (upc (up (up (up (up c 41 20 (c 41 16)) 41 21 (c 41 17)) 41 22 (c 41 18)) 41 23 (c 41 19)) 44 0 47 0 24) 45 0 48 0 12) 46 0 49 0 4) 41 30 0) 41 47 0) 41 48 0) 41 35 0) 41 52 0) 41 36 0) 41 52 = 0 := ((up_n (by decide)).trans (up_e rfl))
  exact (s_149x_l (sc := sc) (d := d) hI K 140).1 (up (up (up (up (up (up (upc (upc (upc (up (up (up (up c 41 20 (c 41 16)) 41 21 (c 41 17)) 41 22 (c 41 18)) 41 23 (c 41 19)) 44 0 47 0 24) 45 0 48 0 12) 46 0 49 0 4) 41 30 0) 41 47 0) 41 48 0) 41 35 0) 41 52 0) 41 36 0) 0 hI_101 (fun a j hm => (up_b (Decidable.or_iff_not_imp_left.mpr (fun h1 h2 => hm (Or.inr (Or.inr (Or.inr (Or.inr (Or.inr (Or.inr (Or.inl ⟨Decidable.not_not.mp h1, h2⟩)))))))))).trans ((up_b (Decidable.or_iff_not_imp_left.mpr (fun h1 h2 => hm (Or.inr (Or.inr (Or.inr (Or.inr (Or.inr (Or.inr (Or.inr (Or.inr (Or.inr (Or.inl ⟨Decidable.not_not.mp h1, h2⟩))))))))))))).trans ((up_b (Decidable.or_iff_not_imp_left.mpr (fun h1 h2 => hm (Or.inr (Or.inr (Or.inr (Or.inr (Or.inr (Or.inl ⟨Decidable.not_not.mp h1, h2⟩))))))))).trans ((up_b (Decidable.or_iff_not_imp_left.mpr (fun h1 h2 => hm (Or.inr (Or.inr (Or.inr (Or.inr (Or.inr (Or.inr (Or.inr (Or.inr (Or.inl ⟨Decidable.not_not.mp h1, h2⟩)))))))))))).trans ((up_b (Decidable.or_iff_not_imp_left.mpr (fun h1 h2 => hm (Or.inr (Or.inr (Or.inr (Or.inr (Or.inr (Or.inr (Or.inr (Or.inl ⟨Decidable.not_not.mp h1, h2⟩))))))))))).trans ((up_b (Decidable.or_iff_not_imp_left.mpr (fun h1 h2 => hm (Or.inr (Or.inr (Or.inr (Or.inr (Or.inl ⟨Decidable.not_not.mp h1, h2⟩)))))))).trans ((upc_c (fun h => hm (Or.inr (Or.inr (Or.inr (Or.inr (Or.inr (Or.inr (Or.inr (Or.inr (Or.inr (Or.inr (Or.inr (Or.inr (Or.inl h))))))))))))))).trans ((upc_c (fun h => hm (Or.inr (Or.inr (Or.inr (Or.inr (Or.inr (Or.inr (Or.inr (Or.inr (Or.inr (Or.inr (Or.inr (Or.inl h)))))))))))))).trans ((upc_c (fun h => hm (Or.inr (Or.inr (Or.inr (Or.inr (Or.inr (Or.inr (Or.inr (Or.inr (Or.inr (Or.inr (Or.inl h))))))))))))).trans ((up_b (Decidable.or_iff_not_imp_left.mpr (fun h1 h2 => hm (Or.inr (Or.inr (Or.inr (Or.inl ⟨Decidable.not_not.mp h1, h2⟩))))))).trans ((up_b (Decidable.or_iff_not_imp_left.mpr (fun h1 h2 => hm (Or.inr (Or.inr (Or.inl ⟨Decidable.not_not.mp h1, h2⟩)))))).trans ((up_b (Decidable.or_iff_not_imp_left.mpr (fun h1 h2 => hm (Or.inr (Or.inl ⟨Decidable.not_not.mp h1, h2⟩))))).trans (up_b (Decidable.or_iff_not_imp_left.mpr (fun h1 h2 => hm (Or.inl ⟨Decidable.not_not.mp h1, h2⟩)))))))))))))))) ⟨by decide, by decide⟩ (by omega) (fun j h1 h2 => (up_c (nn rfl)).trans ((up_c (nn rfl)).trans ((up_c (nn rfl)).trans ((up_c (nn rfl)).trans ((up_c (nn rfl)).trans ((up_c (nn rfl)).trans ((upc_c (nn rfl)).trans ((upc_c (nn rfl)).trans (((upc_e ⟨by omega, by omega⟩)).trans (((congrArg ((up (up (up (up c 41 20 (c 41 16)) 41 21 (c 41 17)) 41 22 (c 41 18)) 41 23 (c 41 19)) 44) (by omega))).trans ((up_c (nn rfl)).trans ((up_c (nn rfl)).trans ((up_c (nn rfl)).trans (up_c (nn rfl))))))))))))))) (fun j h1 h2 => (up_c (nn rfl)).trans ((up_c (nn rfl)).trans ((up_c (nn rfl)).trans ((up_c (nn rfl)).trans ((up_c (nn rfl)).trans ((up_c (nn rfl)).trans ((upc_c (nn rfl)).trans (((upc_e ⟨by omega, by omega⟩)).trans (((congrArg ((upc (up (up (up (up c 41 20 (c 41 16)) 41 21 (c 41 17)) 41 22 (c 41 18)) 41 23 (c 41 19)) 44 0 47 0 24) 45) (by omega))).trans ((upc_c (nn rfl)).trans ((up_c (nn rfl)).trans ((up_c (nn rfl)).trans ((up_c (nn rfl)).trans (up_c (nn rfl))))))))))))))) (fun j h1 h2 => (up_c (nn rfl)).trans ((up_c (nn rfl)).trans ((up_c (nn rfl)).trans ((up_c (nn rfl)).trans ((up_c (nn rfl)).trans ((up_c (nn rfl)).trans (((upc_e ⟨by omega, by omega⟩)).trans (((congrArg ((upc (upc (up (up (up (up c 41 20 (c 41 16)) 41 21 (c 41 17)) 41 22 (c 41 18)) 41 23 (c 41 19)) 44 0 47 0 24) 45 0 48 0 12) 46) (by omega))).trans ((upc_c (nn rfl)).trans ((upc_c (nn rfl)).trans ((up_c (nn rfl)).trans ((up_c (nn rfl)).trans ((up_c (nn rfl)).trans (up_c (nn rfl))))))))))))))) (by omega)

set_option maxRecDepth 100000 in
set_option maxHeartbeats 4000000 in
theorem L_8 {sc : List Int32} {e eg : Int} {d dh u ug P Q P2 Q2 : Nat} {c m m9 : ME} {a2 yg e1 a9 : Int} {F H : Int → Int} {Z : AR → Prop} (hI : Iv u e P2 Q2 c) (hJ : Iv ug eg P Q m) (hJ9 : Iv ug eg P Q m9) (ha2 : (-1) ≤ a2 ∧ a2 ≤ 9999) (hyg : 0 ≤ yg ∧ yg ≤ 9999) (hg_e1 : m 1 1 = e1) (hr_e1 : c 41 3 = e1) (hg_a9 : m 1 2 = a9) (hF : ∀ j : Int, m 2 j = F j) (hH : ∀ j : Int, c 43 j = H j) (hU : Ub F H) (hRt : Rt m c) (hG : Wp sc (dh + 14) 8 0 [(0, .ref 1), (1, vi a2)] [] (Wd P Q P P m) 0 0 (fun q => q = (.inl (some (vi yg)), Wd P Q P P m9, 0, 0))) (K : ∀ (c2 : ME) (y : Int), Iv u e P2 Q2 c2 → (∀ (a : Nat) (j : Int), ¬ ((a = 41 ∧ j = 4) ∨ (a = 41 ∧ j = 5) ∨ (a = 41 ∧ j = 6)) → c2 a j = c a j) → 0 ≤ y ∧ y ≤ 9999 → (Rt m9 c2) → ((y = yg)) → ((m9 1 4 < 0) ∨ (m9 1 4 > 0) ∨ (m9 1 2 > a9 ∧ m9 1 2 ≤ e1)) → Z (.inl (some (vi y)), Wd P2 Q2 P2 P2 c2, 0, 0)) : Wp sc (d + 14) 160 0 [(0, .ref 41), (1, vi 0), (2, vi a2)] [] (Wd P2 Q2 P2 P2 c) 0 0 Z := by
  have hP := iv_P hJ
  have hQ := iv_Q hJ
  have h_1 := ir_1_1 hJ
  have h_2 := ir_41_3 hI
  have h_3 := ir_1_2 hJ
  refine gh hG ?_
  by_cases hs9 : m 1 4 = 0
  · skip
    have h_4 := ir_1_4 hJ
    have hs8 := (rt_ok hRt hs9).2.2.2
    have h_5 : -2147483648 ≤ (F a9) ∧ (F a9) ≤ 2147483647 := by rw [← hF a9]; exact ir_2 hJ a9
    have h_6 := nx_bd (b := F) (e := e1) (a := a9)
    have h_7 : -2147483648 ≤ (F (nx F e1 a9)) ∧ (F (nx F e1 a9)) ≤ 2147483647 := by rw [← hF (nx F e1 a9)]; exact ir_2 hJ (nx F e1 a9)
    have h_8 := nx_n (b := F) (e := e1) (a := a9)
    have h_9 := dg_bd (b := F) (e := e1) (a := (nx F e1 a9)) (v := 0) (by decide)
    have h_10 := dg_p (b := F) (e := e1) (a := (nx F e1 a9)) (v := 0) (by decide)
    refine f_8 (a1 := a2) (e1 := e1) (a9 := a9) (f9 := 0) (p9 := (-1)) (B := F) (r8 := (nx F e1 a9)) (D8 := (dg F e1 (nx F e1 a9) 0).1) (V8 := (dg F e1 (nx F e1 a9) 0).2) hJ (show (-1) ≤ a2 ∧ a2 ≤ 9999 from by omega) ((hg_e1)) ((hg_a9)) ((hs9)) ((hs8)) (fun j => hF j) rfl rfl rfl (fun c_11 hI_12 hF_13 h_14 hz_15 hz_16 hz_17 => by exfalso; omega) (fun c_18 hI_19 hF_20 h_21 h_22 hz_23 hz_24 hz_25 => ?_) (fun c_26 hI_27 hF_28 h_29 h_30 h_31 hz_32 hz_33 hz_34 => ?_) (fun c_35 hI_36 hF_37 h_38 h_39 h_40 hz_41 hz_42 hz_43 => ?_)
    · skip
      intro hE_44
      have h_45 : yg = 0 := (vi_inj ⟨by omega, by omega⟩ ⟨by omega, by omega⟩ (Option.some.inj (Sum.inl.inj (Prod.mk.inj hE_44).1))).symm
      have hW : Wd P Q P P c_18 = Wd P Q P P m9 := (Prod.mk.inj (Prod.mk.inj hE_44).2).1
      have h_46 := ir_1_4 hJ9
      have h_47 : m9 1 4 = 1 := wd_fv (z := 4) 4 rfl hW rfl rfl rfl rfl (by decide) (hz_24) ⟨by omega, by omega⟩ ⟨by omega, by omega⟩
      have h_48 := ir_1_2 hJ9
      have h_49 : m9 1 2 = (nx F e1 a9) := wd_fv (z := 2) 2 rfl hW rfl rfl rfl rfl (by decide) (hz_23) ⟨by omega, by omega⟩ ⟨by omega, by omega⟩
      have h_50 := ir_1_5 hJ9
      have h_51 : m9 1 5 = (nx F e1 a9) := wd_fv (z := 5) 5 rfl hW rfl rfl rfl rfl (by decide) (hz_25) ⟨by omega, by omega⟩ ⟨by omega, by omega⟩
      have h_52 := ir_41_4 hI
      have h_53 := ir_1_5 hJ
      have h_54 := ir_41_5 hI
      have h_55 := ir_41_6 hI
      have h_56 := rt_ok hRt (by omega)
      have hro_hRt := rt_ok hRt (by omega)
      have h_64 : -2147483648 ≤ (H (nx F e1 a9)) ∧ (H (nx F e1 a9)) ≤ 2147483647 := by rw [← hH (nx F e1 a9)]; exact ir_43 hI (nx F e1 a9)
      have h_65 : (nx F e1 a9) < 600 → (H (nx F e1 a9)) = (F (nx F e1 a9)) % 256 ∧ -128 ≤ (F (nx F e1 a9)) ∧ (F (nx F e1 a9)) ≤ 127 := fun q => hU (nx F e1 a9) (by omega) q
      refine f_160 (a1 := 0) (a2 := a2) (e1 := e1) (a9 := a9) (f9 := (-1)) (k9 := c 41 6) (B := H) (r8 := (nx F e1 a9)) (D8 := (dg F e1 (nx F e1 a9) 0).1) (V8 := (dg F e1 (nx F e1 a9) 0).2) hI (show 0 ≤ 0 ∧ 0 ≤ 1 from by omega) (show (-1) ≤ a2 ∧ a2 ≤ 9999 from by omega) ((hr_e1)) (((hro_hRt.2.2.1).trans ((hg_a9)))) (hro_hRt.2.1) (rfl) (fun j => hH j) ((nx_tr hU (by omega) (by omega)).trans (rfl)) ((congrArg (fun q : Int × Int => q.1) (dg_tr hU (by omega) (by omega))).trans (rfl)) ((congrArg (fun q : Int × Int => q.2) (dg_tr hU (by omega) (by omega))).trans (rfl)) (fun c_57 hI_58 hF_59 h_60 hz_61 hz_62 hz_63 => by exfalso; omega) (fun c_66 hI_67 hF_68 h_69 h_70 hz_71 hz_72 hz_73 => ?_) (fun c_74 hI_75 hF_76 h_77 h_78 h_79 hz_80 hz_81 hz_82 => by exfalso; omega) (fun c_83 hI_84 hF_85 h_86 h_87 h_88 h_89 hz_90 hz_91 hz_92 => by exfalso; omega)
      have h_93 : c_66 41 5 = (nx F e1 a9) := (hz_72)
      have h_94 : c_66 41 4 = (nx F e1 a9) := (hz_71)
      have h_95 : c_66 41 6 = 1 := (hz_73)
      exact K c_66 0 hI_67 (fun a j hm => hF_68 a j (fun q => q.elim (fun h => hm (Or.inl h)) (fun q => q.elim (fun h => hm (Or.inr (Or.inl h))) (fun h => hm (Or.inr (Or.inr h)))))) ⟨by omega, by omega⟩ (by unfold Rt; omega) (by omega) (by omega)
    · skip
      intro hE_96
      have h_97 : yg = 0 := (vi_inj ⟨by omega, by omega⟩ ⟨by omega, by omega⟩ (Option.some.inj (Sum.inl.inj (Prod.mk.inj hE_96).1))).symm
      have hW : Wd P Q P P c_26 = Wd P Q P P m9 := (Prod.mk.inj (Prod.mk.inj hE_96).2).1
      have h_98 := ir_1_4 hJ9
      have h_99 : m9 1 4 = 2 := wd_fv (z := 4) 4 rfl hW rfl rfl rfl rfl (by decide) (hz_33) ⟨by omega, by omega⟩ ⟨by omega, by omega⟩
      have h_100 := ir_1_2 hJ9
      have h_101 : m9 1 2 = (dg F e1 (nx F e1 a9) 0).1 := wd_fv (z := 2) 2 rfl hW rfl rfl rfl rfl (by decide) (hz_32) ⟨by omega, by omega⟩ ⟨by omega, by omega⟩
      have h_102 := ir_1_5 hJ9
      have h_103 : m9 1 5 = (nx F e1 a9) := wd_fv (z := 5) 5 rfl hW rfl rfl rfl rfl (by decide) (hz_34) ⟨by omega, by omega⟩ ⟨by omega, by omega⟩
      have h_104 := ir_41_4 hI
      have h_105 := ir_1_5 hJ
      have h_106 := ir_41_5 hI
      have h_107 := ir_41_6 hI
      have h_108 := rt_ok hRt (by omega)
      have hro_hRt := rt_ok hRt (by omega)
      have h_116 : -2147483648 ≤ (H (nx F e1 a9)) ∧ (H (nx F e1 a9)) ≤ 2147483647 := by rw [← hH (nx F e1 a9)]; exact ir_43 hI (nx F e1 a9)
      have h_117 := hU (nx F e1 a9) (by omega) (by omega)
      refine f_160 (a1 := 0) (a2 := a2) (e1 := e1) (a9 := a9) (f9 := (-1)) (k9 := c 41 6) (B := H) (r8 := (nx F e1 a9)) (D8 := (dg F e1 (nx F e1 a9) 0).1) (V8 := (dg F e1 (nx F e1 a9) 0).2) hI (show 0 ≤ 0 ∧ 0 ≤ 1 from by omega) (show (-1) ≤ a2 ∧ a2 ≤ 9999 from by omega) ((hr_e1)) (((hro_hRt.2.2.1).trans ((hg_a9)))) (hro_hRt.2.1) (rfl) (fun j => hH j) ((nx_tr hU (by omega) (by omega)).trans (rfl)) ((congrArg (fun q : Int × Int => q.1) (dg_tr hU (by omega) (by omega))).trans (rfl)) ((congrArg (fun q : Int × Int => q.2) (dg_tr hU (by omega) (by omega))).trans (rfl)) (fun c_109 hI_110 hF_111 h_112 hz_113 hz_114 hz_115 => by exfalso; omega) (fun c_118 hI_119 hF_120 h_121 h_122 hz_123 hz_124 hz_125 => by exfalso; omega) (fun c_126 hI_127 hF_128 h_129 h_130 h_131 hz_132 hz_133 hz_134 => ?_) (fun c_135 hI_136 hF_137 h_138 h_139 h_140 h_141 hz_142 hz_143 hz_144 => by exfalso; omega)
      have h_145 : c_126 41 5 = (nx F e1 a9) := (hz_133)
      have h_146 : c_126 41 4 = (dg F e1 (nx F e1 a9) 0).1 := (hz_132)
      have h_147 : c_126 41 6 = 2 := (hz_134)
      exact K c_126 0 hI_127 (fun a j hm => hF_128 a j (fun q => q.elim (fun h => hm (Or.inl h)) (fun q => q.elim (fun h => hm (Or.inr (Or.inl h))) (fun h => hm (Or.inr (Or.inr h)))))) ⟨by omega, by omega⟩ (by unfold Rt; omega) (by omega) (by omega)
    · skip
      intro hE_148
      have h_149 : yg = (dg F e1 (nx F e1 a9) 0).2 := (vi_inj ⟨by omega, by omega⟩ ⟨by omega, by omega⟩ (Option.some.inj (Sum.inl.inj (Prod.mk.inj hE_148).1))).symm
      have hW : Wd P Q P P c_35 = Wd P Q P P m9 := (Prod.mk.inj (Prod.mk.inj hE_148).2).1
      have h_150 := ir_1_4 hJ9
      have h_151 : m9 1 4 = 0 := wd_fv (z := 4) 4 rfl hW rfl rfl rfl rfl (by decide) (hz_42) ⟨by omega, by omega⟩ ⟨by omega, by omega⟩
      have h_152 := ir_1_2 hJ9
      have h_153 : m9 1 2 = (dg F e1 (nx F e1 a9) 0).1 := wd_fv (z := 2) 2 rfl hW rfl rfl rfl rfl (by decide) (hz_41) ⟨by omega, by omega⟩ ⟨by omega, by omega⟩
      have h_154 := ir_1_5 hJ9
      have h_155 : m9 1 5 = (-1) := wd_fv (z := 5) 5 rfl hW rfl rfl rfl rfl (by decide) (hz_43) ⟨by omega, by omega⟩ ⟨by omega, by omega⟩
      have h_156 := ir_41_4 hI
      have h_157 := ir_1_5 hJ
      have h_158 := ir_41_5 hI
      have h_159 := ir_41_6 hI
      have h_160 := rt_ok hRt (by omega)
      have hro_hRt := rt_ok hRt (by omega)
      have h_168 : -2147483648 ≤ (H (nx F e1 a9)) ∧ (H (nx F e1 a9)) ≤ 2147483647 := by rw [← hH (nx F e1 a9)]; exact ir_43 hI (nx F e1 a9)
      have h_169 := hU (nx F e1 a9) (by omega) (by omega)
      refine f_160 (a1 := 0) (a2 := a2) (e1 := e1) (a9 := a9) (f9 := (-1)) (k9 := c 41 6) (B := H) (r8 := (nx F e1 a9)) (D8 := (dg F e1 (nx F e1 a9) 0).1) (V8 := (dg F e1 (nx F e1 a9) 0).2) hI (show 0 ≤ 0 ∧ 0 ≤ 1 from by omega) (show (-1) ≤ a2 ∧ a2 ≤ 9999 from by omega) ((hr_e1)) (((hro_hRt.2.2.1).trans ((hg_a9)))) (hro_hRt.2.1) (rfl) (fun j => hH j) ((nx_tr hU (by omega) (by omega)).trans (rfl)) ((congrArg (fun q : Int × Int => q.1) (dg_tr hU (by omega) (by omega))).trans (rfl)) ((congrArg (fun q : Int × Int => q.2) (dg_tr hU (by omega) (by omega))).trans (rfl)) (fun c_161 hI_162 hF_163 h_164 hz_165 hz_166 hz_167 => by exfalso; omega) (fun c_170 hI_171 hF_172 h_173 h_174 hz_175 hz_176 hz_177 => by exfalso; omega) (fun c_178 hI_179 hF_180 h_181 h_182 h_183 hz_184 hz_185 hz_186 => by exfalso; omega) (fun c_187 hI_188 hF_189 h_190 h_191 h_192 h_193 hz_194 hz_195 hz_196 => ?_)
      have h_197 : c_187 41 5 = (-1) := (hz_195)
      have h_198 : c_187 41 4 = (dg F e1 (nx F e1 a9) 0).1 := (hz_194)
      have h_199 : c_187 41 6 = c 41 6 := (hz_196)
      exact K c_187 ((dg F e1 (nx F e1 a9) 0).2) hI_188 (fun a j hm => hF_189 a j (fun q => q.elim (fun h => hm (Or.inl h)) (fun q => q.elim (fun h => hm (Or.inr (Or.inl h))) (fun h => hm (Or.inr (Or.inr h)))))) ⟨by omega, by omega⟩ (by unfold Rt; omega) (by omega) (by omega)
  · skip
    have h_200 := ir_1_4 hJ
    have h_201 := ir_1_5 hJ
    have h_202 : -2147483648 ≤ (F a9) ∧ (F a9) ≤ 2147483647 := by rw [← hF a9]; exact ir_2 hJ a9
    have h_203 := nx_bd (b := F) (e := e1) (a := a9)
    have h_204 : -2147483648 ≤ (F (nx F e1 a9)) ∧ (F (nx F e1 a9)) ≤ 2147483647 := by rw [← hF (nx F e1 a9)]; exact ir_2 hJ (nx F e1 a9)
    have h_205 := nx_n (b := F) (e := e1) (a := a9)
    have h_206 := dg_bd (b := F) (e := e1) (a := (nx F e1 a9)) (v := 0) (by decide)
    have h_207 := dg_p (b := F) (e := e1) (a := (nx F e1 a9)) (v := 0) (by decide)
    refine f_8 (a1 := a2) (e1 := e1) (a9 := a9) (f9 := m 1 4) (p9 := m 1 5) (B := F) (r8 := (nx F e1 a9)) (D8 := (dg F e1 (nx F e1 a9) 0).1) (V8 := (dg F e1 (nx F e1 a9) 0).2) hJ (show (-1) ≤ a2 ∧ a2 ≤ 9999 from by omega) ((hg_e1)) ((hg_a9)) (rfl) (rfl) (fun j => hF j) rfl rfl rfl (fun c_208 hI_209 hF_210 h_211 hz_212 hz_213 hz_214 => ?_) (fun c_215 hI_216 hF_217 h_218 h_219 hz_220 hz_221 hz_222 => by exfalso; omega) (fun c_223 hI_224 hF_225 h_226 h_227 h_228 hz_229 hz_230 hz_231 => by exfalso; omega) (fun c_232 hI_233 hF_234 h_235 h_236 h_237 hz_238 hz_239 hz_240 => by exfalso; omega)
    intro hE_241
    have h_242 : yg = 0 := (vi_inj ⟨by omega, by omega⟩ ⟨by omega, by omega⟩ (Option.some.inj (Sum.inl.inj (Prod.mk.inj hE_241).1))).symm
    have hW : Wd P Q P P c_208 = Wd P Q P P m9 := (Prod.mk.inj (Prod.mk.inj hE_241).2).1
    have h_243 := ir_1_4 hJ9
    have h_244 : m9 1 4 = m 1 4 := wd_fv (z := 4) 4 rfl hW rfl rfl rfl rfl (by decide) (hz_213) ⟨by omega, by omega⟩ ⟨by omega, by omega⟩
    have h_245 := ir_1_2 hJ9
    have h_246 : m9 1 2 = a9 := wd_fv (z := 2) 2 rfl hW rfl rfl rfl rfl (by decide) (hz_212) ⟨by omega, by omega⟩ ⟨by omega, by omega⟩
    have h_247 := ir_1_5 hJ9
    have h_248 : m9 1 5 = m 1 5 := wd_fv (z := 5) 5 rfl hW rfl rfl rfl rfl (by decide) (hz_214) ⟨by omega, by omega⟩ ⟨by omega, by omega⟩
    have h_249 := ir_41_4 hI
    have h_250 := ir_41_5 hI
    have h_251 := ir_41_6 hI
    have h_252 := rt_bad hRt (by omega)
    have hrb_hRt := rt_bad hRt (by omega)
    have h_253 : -2147483648 ≤ (F (c 41 4)) ∧ (F (c 41 4)) ≤ 2147483647 := by rw [← hF (c 41 4)]; exact ir_2 hJ (c 41 4)
    have h_254 := nx_bd (b := F) (e := e1) (a := c 41 4)
    have h_255 : -2147483648 ≤ (F (nx F e1 (c 41 4))) ∧ (F (nx F e1 (c 41 4))) ≤ 2147483647 := by rw [← hF (nx F e1 (c 41 4))]; exact ir_2 hJ (nx F e1 (c 41 4))
    have h_256 := nx_n (b := F) (e := e1) (a := c 41 4)
    have h_257 := dg_bd (b := F) (e := e1) (a := (nx F e1 (c 41 4))) (v := 0) (by decide)
    have h_258 := dg_p (b := F) (e := e1) (a := (nx F e1 (c 41 4))) (v := 0) (by decide)
    have h_266 : -2147483648 ≤ (H (nx F e1 (c 41 4))) ∧ (H (nx F e1 (c 41 4))) ≤ 2147483647 := by rw [← hH (nx F e1 (c 41 4))]; exact ir_43 hI (nx F e1 (c 41 4))
    have h_267 : (nx F e1 (c 41 4)) < 600 → (H (nx F e1 (c 41 4))) = (F (nx F e1 (c 41 4))) % 256 ∧ -128 ≤ (F (nx F e1 (c 41 4))) ∧ (F (nx F e1 (c 41 4))) ≤ 127 := fun q => hU (nx F e1 (c 41 4)) (by omega) q
    refine f_160 (a1 := 0) (a2 := a2) (e1 := e1) (a9 := c 41 4) (f9 := m 1 5) (k9 := m 1 4) (B := H) (r8 := (nx F e1 (c 41 4))) (D8 := (dg F e1 (nx F e1 (c 41 4)) 0).1) (V8 := (dg F e1 (nx F e1 (c 41 4)) 0).2) hI (show 0 ≤ 0 ∧ 0 ≤ 1 from by omega) (show (-1) ≤ a2 ∧ a2 ≤ 9999 from by omega) ((hr_e1)) (rfl) (hrb_hRt.2.1) (hrb_hRt.2.2.2) (fun j => hH j) ((nx_tr hU (by omega) (by omega)).trans (rfl)) ((congrArg (fun q : Int × Int => q.1) (dg_tr hU (by omega) (by omega))).trans (rfl)) ((congrArg (fun q : Int × Int => q.2) (dg_tr hU (by omega) (by omega))).trans (rfl)) (fun c_259 hI_260 hF_261 h_262 hz_263 hz_264 hz_265 => ?_) (fun c_268 hI_269 hF_270 h_271 h_272 hz_273 hz_274 hz_275 => by exfalso; omega) (fun c_276 hI_277 hF_278 h_279 h_280 h_281 hz_282 hz_283 hz_284 => by exfalso; omega) (fun c_285 hI_286 hF_287 h_288 h_289 h_290 h_291 hz_292 hz_293 hz_294 => by exfalso; omega)
    have h_295 : c_259 41 5 = m 1 5 := (hz_264)
    have h_296 : c_259 41 4 = c 41 4 := (hz_263)
    have h_297 : c_259 41 6 = m 1 4 := (hz_265)
    exact K c_259 0 hI_260 (fun a j hm => hF_261 a j (fun q => q.elim (fun h => hm (Or.inl h)) (fun q => q.elim (fun h => hm (Or.inr (Or.inl h))) (fun h => hm (Or.inr (Or.inr h)))))) ⟨by omega, by omega⟩ (by unfold Rt; omega) (by omega) (by omega)

set_option maxRecDepth 100000 in
set_option maxHeartbeats 4000000 in
theorem L_11_9 {sc : List Int32} {e eg : Int} {d dh u ug P Q P2 Q2 : Nat} {c m m9 : ME} {e1 a9 : Int} {F H : Int → Int} {Z : AR → Prop} (hI : Iv u e P2 Q2 c) (hJ : Iv ug eg P Q m) (hJ9 : Iv ug eg P Q m9) (hg_e1 : m 1 1 = e1) (hr_e1 : c 41 3 = e1) (hg_a9 : m 1 2 = a9) (hF : ∀ j : Int, m 2 j = F j) (hH : ∀ j : Int, c 43 j = H j) (hU : Ub F H) (hRt : Rt m c) (hG : Wp sc (dh + 14) 11 0 [(0, .ref 1), (1, .ref (a_SB + 9))] [] (Wd P Q P P m) 0 0 (fun q => q = (.inl (none), Wd P Q P P m9, 0, 0))) (K : ∀ (c2 : ME), Iv u e P2 Q2 c2 → (∀ (a : Nat) (j : Int), ¬ ((a = 41 ∧ j = 4) ∨ (a = 41 ∧ j = 5) ∨ (a = 41 ∧ j = 6)) → c2 a j = c a j) → (Rt m9 c2) → ((m9 1 4 < 0) ∨ (m9 1 4 > 0) ∨ (m9 1 2 > a9 ∧ m9 1 2 ≤ e1)) → Z (.inl (none), Wd P2 Q2 P2 P2 c2, 0, 0)) : Wp sc (d + 14) 161 0 [(0, .ref 41), (1, vi 59)] [] (Wd P2 Q2 P2 P2 c) 0 0 Z := by
  have hP := iv_P hJ
  have hQ := iv_Q hJ
  have h_1 := ir_1_1 hJ
  have h_2 := ir_41_3 hI
  have h_3 := ir_1_2 hJ
  refine gh hG ?_
  by_cases hs9 : m 1 4 = 0
  · skip
    have h_4 := ir_1_4 hJ
    have hs8 := (rt_ok hRt hs9).2.2.2
    refine q_aload_n rfl rfl ?_
    refine v_cv rfl rfl rfl rfl (by decide) ⟨⟨rfl, rfl⟩, by decide, rfl⟩ (Nat.le_of_ble_eq_true rfl) (Nat.le_of_ble_eq_true rfl) ?_
    refine q_aload_n rfl rfl ?_
    refine v_gi (z := 4) (v := 0) rfl rfl rfl (by decide) rfl rfl (hs9) ?_
    refine v_if_ne_f (t := 11) rfl (by decide) (by decide) ?_
    refine q_iconst rfl ?_
    refine q_goto (t := 12) rfl (by decide) ?_
    refine v_zret rfl rfl (by decide) ?_
    refine bk_inl ?_
    refine v_if_eq_f (t := 25) rfl (by decide) (by decide) ?_
    refine q_aload_n rfl rfl ?_
    refine q_aload_n rfl rfl ?_
    refine v_cv rfl rfl rfl rfl (by decide) ⟨⟨rfl, rfl⟩, by decide, rfl⟩ (Nat.le_of_ble_eq_true rfl) (Nat.le_of_ble_eq_true rfl) ?_
    refine q_aload_n rfl rfl ?_
    have h_5 : -2147483648 ≤ (F a9) ∧ (F a9) ≤ 2147483647 := by rw [← hF a9]; exact ir_2 hJ a9
    have h_6 := nx_bd (b := F) (e := e1) (a := a9)
    have h_7 : -2147483648 ≤ (F (nx F e1 a9)) ∧ (F (nx F e1 a9)) ≤ 2147483647 := by rw [← hF (nx F e1 a9)]; exact ir_2 hJ (nx F e1 a9)
    have h_8 := nx_n (b := F) (e := e1) (a := a9)
    refine v_cv rfl rfl rfl rfl (by decide) ⟨⟨rfl, rfl⟩, by decide, rfl⟩ (Nat.le_of_ble_eq_true rfl) (Nat.le_of_ble_eq_true rfl) (f_3 (e1 := e1) (a9 := a9) (B := F) (r8 := (nx F e1 a9)) hJ ((hg_e1)) ((hg_a9)) (fun j => hF j) rfl (fun c_9 hI_10 hF_11 hz_12 => ?_))
    refine bk_inl ?_
    refine q_istore_n rfl (by decide) ?_
    refine q_iconst rfl ?_
    refine q_istore_n rfl (by decide) ?_
    refine q_iload_n rfl rfl ?_
    refine q_aload_n rfl rfl ?_
    refine v_sln 1 rfl rfl (by omega) (Nat.le_of_ble_eq_true rfl) (by decide) (by decide) ?_
    refine v_ic_ge_f (t := 55) rfl (by decide) (by decide) ?_
    refine q_iload_n rfl rfl ?_
    refine q_aload_n rfl rfl ?_
    have kn_13 : Hid (c_9 1 1 = e1) := (hF_11 1 1 (fun h => absurd h.2 (ni rfl))).trans (hg_e1)
    refine v_gi (z := 1) (v := e1) rfl rfl rfl (by decide) rfl rfl (hid kn_13) ?_
    by_cases h_14 : (nx F e1 a9) ≥ e1
    · refine v_ic_ge_t (t := 55) rfl (by decide) (by omega) ?_
      refine q_iconst rfl ?_
      refine q_iret rfl rfl ?_
      refine bk_inl ?_
      refine q_iconst rfl ?_
      refine v_ic_ne_f (t := 25) rfl (by decide) (by decide) ?_
      refine q_aload_n rfl rfl ?_
      refine q_iconst rfl ?_
      refine q_aload_n rfl rfl ?_
      refine v_gi (z := 2) (v := (nx F e1 a9)) rfl rfl rfl (by decide) rfl rfl (hz_12) ?_
      refine v_cv rfl rfl rfl rfl (by decide) ⟨⟨rfl, rfl⟩, by decide, rfl⟩ (Nat.le_of_ble_eq_true rfl) (Nat.le_of_ble_eq_true rfl) ?_
      refine q_aload_n rfl rfl ?_
      have kn_15 : Hid (c_9 1 4 = 0) := (hF_11 1 4 (fun h => absurd h.2 (ni rfl))).trans (hs9)
      refine v_gi (z := 4) (v := 0) rfl rfl rfl (by decide) rfl rfl (hid kn_15) ?_
      refine v_if_ne_f (t := 17) rfl (by decide) (by decide) ?_
      refine q_aload_n rfl rfl ?_
      refine q_iload_n rfl rfl ?_
      refine v_pi (z := 4) rfl rfl rfl (by decide) rfl rfl rfl (by decide) ?_
      refine q_aload_n rfl rfl ?_
      refine q_iload_n rfl rfl ?_
      refine v_pi (z := 5) rfl rfl rfl (by decide) rfl rfl rfl (by decide) ?_
      refine q_vret rfl rfl ?_
      refine bk_inl ?_
      refine q_vret rfl rfl ?_
      have hI_16 := iw_1_4 (v := 1) hI_10 ⟨by decide, by decide⟩
      have hI_17 := iw_1_5 (v := (nx F e1 a9)) hI_16 ⟨by omega, by omega⟩
      intro hE_18
      have hW : Wd P Q P P (up (up c_9 1 4 1) 1 5 (nx F e1 a9)) = Wd P Q P P m9 := (Prod.mk.inj (Prod.mk.inj hE_18).2).1
      have h_19 := ir_1_4 hJ9
      have h_20 : m9 1 4 = 1 := wd_fv (z := 4) 4 rfl hW rfl rfl rfl rfl (by decide) ((up_n (by decide)).trans (up_e rfl)) ⟨by omega, by omega⟩ ⟨by omega, by omega⟩
      have h_21 := ir_1_2 hJ9
      have h_22 : m9 1 2 = (nx F e1 a9) := wd_fv (z := 2) 2 rfl hW rfl rfl rfl rfl (by decide) ((up_n (by decide)).trans ((up_n (by decide)).trans (hz_12))) ⟨by omega, by omega⟩ ⟨by omega, by omega⟩
      have h_23 := ir_1_5 hJ9
      have h_24 : m9 1 5 = (nx F e1 a9) := wd_fv (z := 5) 5 rfl hW rfl rfl rfl rfl (by decide) (up_e rfl) ⟨by omega, by omega⟩ ⟨by omega, by omega⟩
      refine q_aload_n rfl rfl ?_
      refine v_cv rfl rfl rfl rfl (by decide) ⟨⟨rfl, rfl⟩, by decide, rfl⟩ (Nat.le_of_ble_eq_true rfl) (Nat.le_of_ble_eq_true rfl) ?_
      refine q_aload_n rfl rfl ?_
      have h_25 := ir_41_5 hI
      have h_26 := ir_1_5 hJ
      have h_27 := ir_41_4 hI
      have h_28 := ir_41_6 hI
      have h_29 := rt_ok hRt (by omega)
      have hro_hRt := rt_ok hRt (by omega)
      refine v_gi (z := 5) (v := (-1)) rfl rfl rfl (by decide) rfl rfl hro_hRt.2.1 ?_
      refine q_iconst rfl ?_
      refine v_ic_ne_f (t := 12) rfl (by decide) (by decide) ?_
      refine q_iconst rfl ?_
      refine q_goto (t := 13) rfl (by decide) ?_
      refine v_zret rfl rfl (by decide) ?_
      refine bk_inl ?_
      refine v_if_eq_f (t := 24) rfl (by decide) (by decide) ?_
      refine q_aload_n rfl rfl ?_
      have h_30 : -2147483648 ≤ (H (nx F e1 a9)) ∧ (H (nx F e1 a9)) ≤ 2147483647 := by rw [← hH (nx F e1 a9)]; exact ir_43 hI (nx F e1 a9)
      have h_31 : (nx F e1 a9) < 600 → (H (nx F e1 a9)) = (F (nx F e1 a9)) % 256 ∧ -128 ≤ (F (nx F e1 a9)) ∧ (F (nx F e1 a9)) ≤ 127 := fun q => hU (nx F e1 a9) (by omega) q
      have h_32 := hb_or (b := H) (e := e1) (r := (nx F e1 a9))
      have h_33 := hb_bd (b := H) (e := e1) (r := (nx F e1 a9)) (lo := -2147483648) (hi := 2147483647) ⟨by omega, by omega⟩ (by decide)
      refine v_cv rfl rfl rfl rfl (by decide) ⟨⟨rfl, rfl⟩, by decide, rfl⟩ (Nat.le_of_ble_eq_true rfl) (Nat.le_of_ble_eq_true rfl) (f_154 (e1 := e1) (a9 := a9) (B := H) (r8 := (nx F e1 a9)) (r := (hb H e1 (nx F e1 a9))) hI ((hr_e1)) (((hro_hRt.2.2.1).trans ((hg_a9)))) (fun j => hH j) ((nx_tr hU (by omega) (by omega)).trans (rfl)) rfl (fun c_34 hI_35 hF_36 h_37 => ?_))
      refine bk_inl ?_
      refine q_iload_n rfl rfl ?_
      refine v_ic_eq_f (t := 24) rfl (by decide) (by omega) ?_
      refine q_aload_n rfl rfl ?_
      refine q_iconst rfl ?_
      refine q_aload_n rfl rfl ?_
      refine v_gi (z := 4) (v := (nx F e1 a9)) rfl rfl rfl (by decide) rfl rfl (h_37) ?_
      refine v_cv rfl rfl rfl rfl (by decide) ⟨⟨rfl, rfl⟩, by decide, rfl⟩ (Nat.le_of_ble_eq_true rfl) (Nat.le_of_ble_eq_true rfl) ?_
      refine q_aload_n rfl rfl ?_
      have kn_38 : Hid (c_34 41 5 = (-1)) := (hF_36 41 5 (fun h => absurd h.2 (ni rfl))).trans hro_hRt.2.1
      refine v_gi (z := 5) (v := (-1)) rfl rfl rfl (by decide) rfl rfl (hid kn_38) ?_
      refine q_iconst rfl ?_
      refine v_ic_eq_t (t := 9) rfl (by decide) (by decide) ?_
      refine q_aload_n rfl rfl ?_
      refine q_iload_n rfl rfl ?_
      refine v_pi (z := 5) rfl rfl rfl (by decide) rfl rfl rfl (by decide) ?_
      refine q_aload_n rfl rfl ?_
      refine q_iload_n rfl rfl ?_
      refine v_pi (z := 6) rfl rfl rfl (by decide) rfl rfl rfl (by decide) ?_
      refine q_vret rfl rfl ?_
      refine bk_inl ?_
      refine q_aload_n rfl rfl ?_
      refine v_cv rfl rfl rfl rfl (by decide) ⟨⟨rfl, rfl⟩, by decide, rfl⟩ (Nat.le_of_ble_eq_true rfl) (Nat.le_of_ble_eq_true rfl) ?_
      refine q_aload_n rfl rfl ?_
      refine v_gi (z := 5) (v := (nx F e1 a9)) rfl rfl rfl (by decide) rfl rfl ((up_n (by decide)).trans (up_e rfl)) ?_
      refine q_iconst rfl ?_
      refine v_ic_ne_t (t := 12) rfl (by decide) (by omega) ?_
      refine q_iconst rfl ?_
      refine v_zret rfl rfl (by decide) ?_
      refine bk_inl ?_
      refine v_if_eq_t (t := 41) rfl (by decide) (by decide) ?_
      refine q_vret rfl rfl ?_
      have hI_39 := iw_41_5 (v := (nx F e1 a9)) hI_35 ⟨by omega, by omega⟩
      have hI_40 := iw_41_6 (v := 1) hI_39 ⟨by decide, by decide⟩
      have h_41 : (up (up c_34 41 5 (nx F e1 a9)) 41 6 1) 41 5 = (nx F e1 a9) := ((up_n (by decide)).trans (up_e rfl))
      have h_42 : (up (up c_34 41 5 (nx F e1 a9)) 41 6 1) 41 4 = (nx F e1 a9) := ((up_n (by decide)).trans ((up_n (by decide)).trans (h_37)))
      have h_43 : (up (up c_34 41 5 (nx F e1 a9)) 41 6 1) 41 6 = 1 := (up_e rfl)
      exact K (up (up c_34 41 5 (nx F e1 a9)) 41 6 1)  hI_40 (fun a j hm => (up_b (Decidable.or_iff_not_imp_left.mpr (fun h1 h2 => hm (Or.inr (Or.inr ⟨Decidable.not_not.mp h1, h2⟩))))).trans ((up_b (Decidable.or_iff_not_imp_left.mpr (fun h1 h2 => hm (Or.inr (Or.inl ⟨Decidable.not_not.mp h1, h2⟩))))).trans (hF_36 a j (fun h => hm (Or.inl h))))) (by unfold Rt; omega) (by omega)
    · refine v_ic_ge_f (t := 55) rfl (by decide) (by omega) ?_
      refine q_aload_n rfl rfl ?_
      refine v_gr (t := 2) rfl rfl rfl (by decide) rfl ?_
      refine q_iload_n rfl rfl ?_
      have kn_44 : Hid (c_9 2 (nx F e1 a9) = (F (nx F e1 a9))) := (hF_11 2 (nx F e1 a9) (fun h => absurd h.1 (nn rfl))).trans (hF (nx F e1 a9))
      refine v_ba (v := (F (nx F e1 a9))) rfl rfl (by decide) (by decide) (by omega) (hid kn_44) ?_
      refine q_aload_n rfl rfl ?_
      refine q_iload_n rfl rfl ?_
      refine v_sch 59 rfl rfl (by omega) (Nat.le_of_ble_eq_true rfl) (by decide) (by decide) (by decide) ?_
      by_cases h_45 : (F (nx F e1 a9)) ≠ 59
      · refine v_ic_ne_t (t := 49) rfl (by decide) (by omega) ?_
        refine v_iinc (v := 1) rfl rfl (by decide) (by decide) ?_
        refine q_goto (t := 7) rfl (by decide) ?_
        refine q_iload_n rfl rfl ?_
        refine q_aload_n rfl rfl ?_
        refine v_sln 1 rfl rfl (by omega) (Nat.le_of_ble_eq_true rfl) (by decide) (by decide) ?_
        refine v_ic_ge_t (t := 55) rfl (by decide) (by decide) ?_
        refine q_iconst rfl ?_
        refine q_iret rfl rfl ?_
        refine bk_inl ?_
        refine q_iconst rfl ?_
        refine v_ic_ne_f (t := 25) rfl (by decide) (by decide) ?_
        refine q_aload_n rfl rfl ?_
        refine q_iconst rfl ?_
        refine q_aload_n rfl rfl ?_
        refine v_gi (z := 2) (v := (nx F e1 a9)) rfl rfl rfl (by decide) rfl rfl (hz_12) ?_
        refine v_cv rfl rfl rfl rfl (by decide) ⟨⟨rfl, rfl⟩, by decide, rfl⟩ (Nat.le_of_ble_eq_true rfl) (Nat.le_of_ble_eq_true rfl) ?_
        refine q_aload_n rfl rfl ?_
        have kn_46 : Hid (c_9 1 4 = 0) := (hF_11 1 4 (fun h => absurd h.2 (ni rfl))).trans (hs9)
        refine v_gi (z := 4) (v := 0) rfl rfl rfl (by decide) rfl rfl (hid kn_46) ?_
        refine v_if_ne_f (t := 17) rfl (by decide) (by decide) ?_
        refine q_aload_n rfl rfl ?_
        refine q_iload_n rfl rfl ?_
        refine v_pi (z := 4) rfl rfl rfl (by decide) rfl rfl rfl (by decide) ?_
        refine q_aload_n rfl rfl ?_
        refine q_iload_n rfl rfl ?_
        refine v_pi (z := 5) rfl rfl rfl (by decide) rfl rfl rfl (by decide) ?_
        refine q_vret rfl rfl ?_
        refine bk_inl ?_
        refine q_vret rfl rfl ?_
        have hI_47 := iw_1_4 (v := 1) hI_10 ⟨by decide, by decide⟩
        have hI_48 := iw_1_5 (v := (nx F e1 a9)) hI_47 ⟨by omega, by omega⟩
        intro hE_49
        have hW : Wd P Q P P (up (up c_9 1 4 1) 1 5 (nx F e1 a9)) = Wd P Q P P m9 := (Prod.mk.inj (Prod.mk.inj hE_49).2).1
        have h_50 := ir_1_4 hJ9
        have h_51 : m9 1 4 = 1 := wd_fv (z := 4) 4 rfl hW rfl rfl rfl rfl (by decide) ((up_n (by decide)).trans (up_e rfl)) ⟨by omega, by omega⟩ ⟨by omega, by omega⟩
        have h_52 := ir_1_2 hJ9
        have h_53 : m9 1 2 = (nx F e1 a9) := wd_fv (z := 2) 2 rfl hW rfl rfl rfl rfl (by decide) ((up_n (by decide)).trans ((up_n (by decide)).trans (hz_12))) ⟨by omega, by omega⟩ ⟨by omega, by omega⟩
        have h_54 := ir_1_5 hJ9
        have h_55 : m9 1 5 = (nx F e1 a9) := wd_fv (z := 5) 5 rfl hW rfl rfl rfl rfl (by decide) (up_e rfl) ⟨by omega, by omega⟩ ⟨by omega, by omega⟩
        refine q_aload_n rfl rfl ?_
        refine v_cv rfl rfl rfl rfl (by decide) ⟨⟨rfl, rfl⟩, by decide, rfl⟩ (Nat.le_of_ble_eq_true rfl) (Nat.le_of_ble_eq_true rfl) ?_
        refine q_aload_n rfl rfl ?_
        have h_56 := ir_41_5 hI
        have h_57 := ir_1_5 hJ
        have h_58 := ir_41_4 hI
        have h_59 := ir_41_6 hI
        have h_60 := rt_ok hRt (by omega)
        have hro_hRt := rt_ok hRt (by omega)
        refine v_gi (z := 5) (v := (-1)) rfl rfl rfl (by decide) rfl rfl hro_hRt.2.1 ?_
        refine q_iconst rfl ?_
        refine v_ic_ne_f (t := 12) rfl (by decide) (by decide) ?_
        refine q_iconst rfl ?_
        refine q_goto (t := 13) rfl (by decide) ?_
        refine v_zret rfl rfl (by decide) ?_
        refine bk_inl ?_
        refine v_if_eq_f (t := 24) rfl (by decide) (by decide) ?_
        refine q_aload_n rfl rfl ?_
        have h_61 : -2147483648 ≤ (H (nx F e1 a9)) ∧ (H (nx F e1 a9)) ≤ 2147483647 := by rw [← hH (nx F e1 a9)]; exact ir_43 hI (nx F e1 a9)
        have h_62 := hU (nx F e1 a9) (by omega) (by omega)
        have h_63 := hb_or (b := H) (e := e1) (r := (nx F e1 a9))
        have h_64 := hb_bd (b := H) (e := e1) (r := (nx F e1 a9)) (lo := -2147483648) (hi := 2147483647) ⟨by omega, by omega⟩ (by decide)
        refine v_cv rfl rfl rfl rfl (by decide) ⟨⟨rfl, rfl⟩, by decide, rfl⟩ (Nat.le_of_ble_eq_true rfl) (Nat.le_of_ble_eq_true rfl) (f_154 (e1 := e1) (a9 := a9) (B := H) (r8 := (nx F e1 a9)) (r := (hb H e1 (nx F e1 a9))) hI ((hr_e1)) (((hro_hRt.2.2.1).trans ((hg_a9)))) (fun j => hH j) ((nx_tr hU (by omega) (by omega)).trans (rfl)) rfl (fun c_65 hI_66 hF_67 h_68 => ?_))
        refine bk_inl ?_
        refine q_iload_n rfl rfl ?_
        refine v_ic_eq_f (t := 24) rfl (by decide) (by omega) ?_
        refine q_aload_n rfl rfl ?_
        refine q_iconst rfl ?_
        refine q_aload_n rfl rfl ?_
        refine v_gi (z := 4) (v := (nx F e1 a9)) rfl rfl rfl (by decide) rfl rfl (h_68) ?_
        refine v_cv rfl rfl rfl rfl (by decide) ⟨⟨rfl, rfl⟩, by decide, rfl⟩ (Nat.le_of_ble_eq_true rfl) (Nat.le_of_ble_eq_true rfl) ?_
        refine q_aload_n rfl rfl ?_
        have kn_69 : Hid (c_65 41 5 = (-1)) := (hF_67 41 5 (fun h => absurd h.2 (ni rfl))).trans hro_hRt.2.1
        refine v_gi (z := 5) (v := (-1)) rfl rfl rfl (by decide) rfl rfl (hid kn_69) ?_
        refine q_iconst rfl ?_
        refine v_ic_eq_t (t := 9) rfl (by decide) (by decide) ?_
        refine q_aload_n rfl rfl ?_
        refine q_iload_n rfl rfl ?_
        refine v_pi (z := 5) rfl rfl rfl (by decide) rfl rfl rfl (by decide) ?_
        refine q_aload_n rfl rfl ?_
        refine q_iload_n rfl rfl ?_
        refine v_pi (z := 6) rfl rfl rfl (by decide) rfl rfl rfl (by decide) ?_
        refine q_vret rfl rfl ?_
        refine bk_inl ?_
        refine q_aload_n rfl rfl ?_
        refine v_cv rfl rfl rfl rfl (by decide) ⟨⟨rfl, rfl⟩, by decide, rfl⟩ (Nat.le_of_ble_eq_true rfl) (Nat.le_of_ble_eq_true rfl) ?_
        refine q_aload_n rfl rfl ?_
        refine v_gi (z := 5) (v := (nx F e1 a9)) rfl rfl rfl (by decide) rfl rfl ((up_n (by decide)).trans (up_e rfl)) ?_
        refine q_iconst rfl ?_
        refine v_ic_ne_t (t := 12) rfl (by decide) (by omega) ?_
        refine q_iconst rfl ?_
        refine v_zret rfl rfl (by decide) ?_
        refine bk_inl ?_
        refine v_if_eq_t (t := 41) rfl (by decide) (by decide) ?_
        refine q_vret rfl rfl ?_
        have hI_70 := iw_41_5 (v := (nx F e1 a9)) hI_66 ⟨by omega, by omega⟩
        have hI_71 := iw_41_6 (v := 1) hI_70 ⟨by decide, by decide⟩
        have h_72 : (up (up c_65 41 5 (nx F e1 a9)) 41 6 1) 41 5 = (nx F e1 a9) := ((up_n (by decide)).trans (up_e rfl))
        have h_73 : (up (up c_65 41 5 (nx F e1 a9)) 41 6 1) 41 4 = (nx F e1 a9) := ((up_n (by decide)).trans ((up_n (by decide)).trans (h_68)))
        have h_74 : (up (up c_65 41 5 (nx F e1 a9)) 41 6 1) 41 6 = 1 := (up_e rfl)
        exact K (up (up c_65 41 5 (nx F e1 a9)) 41 6 1)  hI_71 (fun a j hm => (up_b (Decidable.or_iff_not_imp_left.mpr (fun h1 h2 => hm (Or.inr (Or.inr ⟨Decidable.not_not.mp h1, h2⟩))))).trans ((up_b (Decidable.or_iff_not_imp_left.mpr (fun h1 h2 => hm (Or.inr (Or.inl ⟨Decidable.not_not.mp h1, h2⟩))))).trans (hF_67 a j (fun h => hm (Or.inl h))))) (by unfold Rt; omega) (by omega)
      · refine v_ic_ne_f (t := 49) rfl (by decide) (by omega) ?_
        refine q_aload_n rfl rfl ?_
        refine q_dup rfl rfl ?_
        refine v_gi (z := 2) (v := (nx F e1 a9)) rfl rfl rfl (by decide) rfl rfl (hz_12) ?_
        refine q_iconst rfl ?_
        refine v_iadd (v := (nx F e1 a9) + 1) rfl (by omega) ?_
        refine v_pi (z := 2) rfl rfl rfl (by decide) rfl rfl rfl (by decide) ?_
        refine q_iload_n rfl rfl ?_
        refine q_iret rfl rfl ?_
        refine bk_inl ?_
        refine q_iconst rfl ?_
        refine v_ic_ne_t (t := 25) rfl (by decide) (by decide) ?_
        refine q_vret rfl rfl ?_
        have hI_75 := iw_1_2 (v := (nx F e1 a9) + 1) hI_10 ⟨by omega, by omega⟩
        intro hE_76
        have hW : Wd P Q P P (up c_9 1 2 ((nx F e1 a9) + 1)) = Wd P Q P P m9 := (Prod.mk.inj (Prod.mk.inj hE_76).2).1
        have kn_77 : Hid (c_9 1 4 = 0) := (hF_11 1 4 (fun h => absurd h.2 (ni rfl))).trans (hs9)
        have h_78 := ir_1_4 hJ9
        have h_79 : m9 1 4 = 0 := wd_fv (z := 4) 4 rfl hW rfl rfl rfl rfl (by decide) ((up_n (by decide)).trans (hid kn_77)) ⟨by omega, by omega⟩ ⟨by omega, by omega⟩
        have h_80 := ir_1_2 hJ9
        have h_81 : m9 1 2 = (nx F e1 a9) + 1 := wd_fv (z := 2) 2 rfl hW rfl rfl rfl rfl (by decide) (up_e rfl) ⟨by omega, by omega⟩ ⟨by omega, by omega⟩
        have kn_82 : Hid (c_9 1 5 = (-1)) := (hF_11 1 5 (fun h => absurd h.2 (ni rfl))).trans (hs8)
        have h_83 := ir_1_5 hJ9
        have h_84 : m9 1 5 = (-1) := wd_fv (z := 5) 5 rfl hW rfl rfl rfl rfl (by decide) ((up_n (by decide)).trans (hid kn_82)) ⟨by omega, by omega⟩ ⟨by omega, by omega⟩
        refine q_aload_n rfl rfl ?_
        refine v_cv rfl rfl rfl rfl (by decide) ⟨⟨rfl, rfl⟩, by decide, rfl⟩ (Nat.le_of_ble_eq_true rfl) (Nat.le_of_ble_eq_true rfl) ?_
        refine q_aload_n rfl rfl ?_
        have h_85 := ir_41_5 hI
        have h_86 := ir_1_5 hJ
        have h_87 := ir_41_4 hI
        have h_88 := ir_41_6 hI
        have h_89 := rt_ok hRt (by omega)
        have hro_hRt := rt_ok hRt (by omega)
        refine v_gi (z := 5) (v := (-1)) rfl rfl rfl (by decide) rfl rfl hro_hRt.2.1 ?_
        refine q_iconst rfl ?_
        refine v_ic_ne_f (t := 12) rfl (by decide) (by decide) ?_
        refine q_iconst rfl ?_
        refine q_goto (t := 13) rfl (by decide) ?_
        refine v_zret rfl rfl (by decide) ?_
        refine bk_inl ?_
        refine v_if_eq_f (t := 24) rfl (by decide) (by decide) ?_
        refine q_aload_n rfl rfl ?_
        have h_90 : -2147483648 ≤ (H (nx F e1 a9)) ∧ (H (nx F e1 a9)) ≤ 2147483647 := by rw [← hH (nx F e1 a9)]; exact ir_43 hI (nx F e1 a9)
        have h_91 := hU (nx F e1 a9) (by omega) (by omega)
        have h_92 := hb_or (b := H) (e := e1) (r := (nx F e1 a9))
        have h_93 := hb_bd (b := H) (e := e1) (r := (nx F e1 a9)) (lo := -2147483648) (hi := 2147483647) ⟨by omega, by omega⟩ (by decide)
        refine v_cv rfl rfl rfl rfl (by decide) ⟨⟨rfl, rfl⟩, by decide, rfl⟩ (Nat.le_of_ble_eq_true rfl) (Nat.le_of_ble_eq_true rfl) (f_154 (e1 := e1) (a9 := a9) (B := H) (r8 := (nx F e1 a9)) (r := (hb H e1 (nx F e1 a9))) hI ((hr_e1)) (((hro_hRt.2.2.1).trans ((hg_a9)))) (fun j => hH j) ((nx_tr hU (by omega) (by omega)).trans (rfl)) rfl (fun c_94 hI_95 hF_96 h_97 => ?_))
        refine bk_inl ?_
        refine q_iload_n rfl rfl ?_
        refine v_ic_eq_t (t := 24) rfl (by decide) (by omega) ?_
        refine q_aload_n rfl rfl ?_
        refine v_cv rfl rfl rfl rfl (by decide) ⟨⟨rfl, rfl⟩, by decide, rfl⟩ (Nat.le_of_ble_eq_true rfl) (Nat.le_of_ble_eq_true rfl) ?_
        refine q_aload_n rfl rfl ?_
        have kn_98 : Hid (c_94 41 5 = (-1)) := (hF_96 41 5 (fun h => absurd h.2 (ni rfl))).trans hro_hRt.2.1
        refine v_gi (z := 5) (v := (-1)) rfl rfl rfl (by decide) rfl rfl (hid kn_98) ?_
        refine q_iconst rfl ?_
        refine v_ic_ne_f (t := 12) rfl (by decide) (by decide) ?_
        refine q_iconst rfl ?_
        refine q_goto (t := 13) rfl (by decide) ?_
        refine v_zret rfl rfl (by decide) ?_
        refine bk_inl ?_
        refine v_if_eq_f (t := 41) rfl (by decide) (by decide) ?_
        refine q_aload_n rfl rfl ?_
        refine q_dup rfl rfl ?_
        refine v_gi (z := 4) (v := (nx F e1 a9)) rfl rfl rfl (by decide) rfl rfl (h_97) ?_
        refine q_iconst rfl ?_
        refine v_iadd (v := (nx F e1 a9) + 1) rfl (by omega) ?_
        refine v_pi (z := 4) rfl rfl rfl (by decide) rfl rfl rfl (by decide) ?_
        refine q_vret rfl rfl ?_
        have hI_99 := iw_41_4 (v := (nx F e1 a9) + 1) hI_95 ⟨by omega, by omega⟩
        have h_100 : (up c_94 41 4 ((nx F e1 a9) + 1)) 41 5 = (-1) := ((up_n (by decide)).trans (hid kn_98))
        have h_101 : (up c_94 41 4 ((nx F e1 a9) + 1)) 41 4 = (nx F e1 a9) + 1 := (up_e rfl)
        have kn_102 : Hid (c_94 41 6 = c 41 6) := hF_96 41 6 (fun h => absurd h.2 (ni rfl))
        have h_103 : (up c_94 41 4 ((nx F e1 a9) + 1)) 41 6 = c 41 6 := ((up_n (by decide)).trans (hid kn_102))
        exact K (up c_94 41 4 ((nx F e1 a9) + 1))  hI_99 (fun a j hm => (up_b (Decidable.or_iff_not_imp_left.mpr (fun h1 h2 => hm (Or.inl ⟨Decidable.not_not.mp h1, h2⟩)))).trans (hF_96 a j (fun h => hm (Or.inl h)))) (by unfold Rt; omega) (by omega)
  · skip
    have h_104 := ir_1_4 hJ
    refine q_aload_n rfl rfl ?_
    refine v_cv rfl rfl rfl rfl (by decide) ⟨⟨rfl, rfl⟩, by decide, rfl⟩ (Nat.le_of_ble_eq_true rfl) (Nat.le_of_ble_eq_true rfl) ?_
    refine q_aload_n rfl rfl ?_
    refine v_gi (z := 4) (v := m 1 4) rfl rfl rfl (by decide) rfl rfl rfl ?_
    refine v_if_ne_t (t := 11) rfl (by decide) (by omega) ?_
    refine q_iconst rfl ?_
    refine v_zret rfl rfl (by decide) ?_
    refine bk_inl ?_
    refine v_if_eq_t (t := 25) rfl (by decide) (by decide) ?_
    refine q_vret rfl rfl ?_
    intro hE_105
    have hW : Wd P Q P P m = Wd P Q P P m9 := (Prod.mk.inj (Prod.mk.inj hE_105).2).1
    have h_106 := ir_1_4 hJ9
    have h_107 : m9 1 4 = m 1 4 := wd_fv (z := 4) 4 rfl hW rfl rfl rfl rfl (by decide) rfl ⟨by omega, by omega⟩ ⟨by omega, by omega⟩
    have h_108 := ir_1_2 hJ9
    have h_109 : m9 1 2 = a9 := wd_fv (z := 2) 2 rfl hW rfl rfl rfl rfl (by decide) (hg_a9) ⟨by omega, by omega⟩ ⟨by omega, by omega⟩
    have h_110 := ir_1_5 hJ
    have h_111 := ir_1_5 hJ9
    have h_112 : m9 1 5 = m 1 5 := wd_fv (z := 5) 5 rfl hW rfl rfl rfl rfl (by decide) rfl ⟨by omega, by omega⟩ ⟨by omega, by omega⟩
    refine q_aload_n rfl rfl ?_
    refine v_cv rfl rfl rfl rfl (by decide) ⟨⟨rfl, rfl⟩, by decide, rfl⟩ (Nat.le_of_ble_eq_true rfl) (Nat.le_of_ble_eq_true rfl) ?_
    refine q_aload_n rfl rfl ?_
    have h_113 := ir_41_5 hI
    have h_114 := ir_41_4 hI
    have h_115 := ir_41_6 hI
    have h_116 := rt_bad hRt (by omega)
    have hrb_hRt := rt_bad hRt (by omega)
    refine v_gi (z := 5) (v := m 1 5) rfl rfl rfl (by decide) rfl rfl hrb_hRt.2.1 ?_
    refine q_iconst rfl ?_
    refine v_ic_ne_t (t := 12) rfl (by decide) (by omega) ?_
    refine q_iconst rfl ?_
    refine v_zret rfl rfl (by decide) ?_
    refine bk_inl ?_
    refine v_if_eq_t (t := 24) rfl (by decide) (by decide) ?_
    refine q_aload_n rfl rfl ?_
    refine v_cv rfl rfl rfl rfl (by decide) ⟨⟨rfl, rfl⟩, by decide, rfl⟩ (Nat.le_of_ble_eq_true rfl) (Nat.le_of_ble_eq_true rfl) ?_
    refine q_aload_n rfl rfl ?_
    refine v_gi (z := 5) (v := m 1 5) rfl rfl rfl (by decide) rfl rfl hrb_hRt.2.1 ?_
    refine q_iconst rfl ?_
    refine v_ic_ne_t (t := 12) rfl (by decide) (by omega) ?_
    refine q_iconst rfl ?_
    refine v_zret rfl rfl (by decide) ?_
    refine bk_inl ?_
    refine v_if_eq_t (t := 41) rfl (by decide) (by decide) ?_
    refine q_vret rfl rfl ?_
    have h_117 : c 41 5 = m 1 5 := hrb_hRt.2.1
    have h_118 : c 41 6 = m 1 4 := hrb_hRt.2.2.2
    exact K c  hI (fun a j hm => rfl) (by unfold Rt; omega) (by omega)

set_option maxRecDepth 100000 in
set_option maxHeartbeats 4000000 in
theorem L_33a_0 {sc : List Int32} {e eg : Int} {d dh u ug P Q P2 Q2 A : Nat} {c m m9 : ME} {e1 jr st si du : Int} {F H : Int → Int} {Z : AR → Prop} (hI : Iv u e P2 Q2 c) (hJ : Iv ug eg P Q m) (hJ9 : Iv ug eg P Q m9) (hA : A = 13 ∨ A = 25) (hq0 : (jr ≤ 5)) (hg_e1 : m 1 1 = e1) (hr_e1 : c 41 3 = e1) (hg_jr : m A 0 = jr) (hr_jr : c 41 16 = jr) (hg_st : m A 1 = st) (hr_st : c 41 17 = st) (hg_si : m A 2 = si) (hr_si : c 41 18 = si) (hg_du : m A 3 = du) (hr_du : c 41 19 = du) (hF : ∀ j : Int, m 2 j = F j) (hH : ∀ j : Int, c 43 j = H j) (hU : Ub F H) (hRt : Rt m c) (hr0 : Ae (4 * jr) (m (A + 1)) (c 44)) (hr1 : Ae (3 * st) (m (A + 2)) (c 45)) (hr2 : Ae si (m (A + 3)) (c 46)) (hG : Wp sc (dh + 18) 33 0 [(0, .ref A), (1, .ref 1), (2, vi 0)] [] (Wd P Q P P m) 0 0 (fun q => q = (.inl (none), Wd P Q P P m9, 0, 0))) (K : ∀ (c2 : ME), Iv u e P2 Q2 c2 → (∀ (a : Nat) (j : Int), ¬ ((a = 41 ∧ j = 4) ∨ (a = 41 ∧ j = 5) ∨ (a = 41 ∧ j = 6) ∨ (a = 41 ∧ j = 16) ∨ (a = 41 ∧ j = 17) ∨ (a = 41 ∧ j = 18) ∨ (a = 41 ∧ j = 19) ∨ a = 44 ∨ a = 45 ∨ a = 46) → c2 a j = c a j) → (Rt m9 c2) → ((m9 A 0 = c2 41 16)) → ((m9 A 1 = c2 41 17)) → ((m9 A 2 = c2 41 18)) → ((m9 A 3 = c2 41 19)) → (Ae (4 * c2 41 16) (m9 (A + 1)) (c2 44)) → (Ae (3 * c2 41 17) (m9 (A + 2)) (c2 45)) → (Ae (c2 41 18) (m9 (A + 3)) (c2 46)) → Z (.inl (none), Wd P2 Q2 P2 P2 c2, 0, 0)) : Wp sc (d + 18) 168 0 [(0, .ref 41), (1, vi 10290)] [] (Wd P2 Q2 P2 P2 c) 0 0 Z := by
  have hP := iv_P hJ
  have hQ := iv_Q hJ
  have h_1 := ir_1_1 hJ
  have h_2 := ir_41_3 hI
  have h_3 := ir_p0_0 hJ hA
  have h_4 := ir_41_16 hI
  have h_5 := ir_p0_1 hJ hA
  have h_6 := ir_41_17 hI
  have h_7 := ir_p0_2 hJ hA
  have h_8 := ir_41_18 hI
  have h_9 := ir_p0_3 hJ hA
  have h_10 := ir_41_19 hI
  refine gh hG ?_
  refine q_iload_n rfl rfl ?_
  refine v_tsw_i (t := 28) 0 rfl (by omega) (by decide) rfl (by decide) ?_
  refine q_aload_n rfl rfl ?_
  refine q_aload_n rfl rfl ?_
  refine v_gr (t := (A + 1)) rfl rfl (ck_p0 hA) (by omega) rfl ?_
  refine q_aload_n rfl rfl ?_
  refine v_gi (z := 0) (v := jr) rfl rfl (ck_p0 hA) (by omega) rfl rfl (hg_jr) ?_
  refine q_iconst rfl ?_
  refine v_imul (v := 4 * jr) rfl (by omega) ?_
  refine q_iconst rfl ?_
  refine v_sip rfl (by decide) ?_
  refine q_call rfl rfl rfl rfl ?_
  refine q_iload_n rfl rfl ?_
  refine q_istore rfl (by decide) ?_
  refine q_iload rfl rfl ?_
  refine q_iload_n rfl rfl ?_
  refine q_iload_n rfl rfl ?_
  refine v_iadd (v := 4 * jr + 4) rfl (by omega) ?_
  refine v_ic_ge_f (t := 34) rfl (by decide) (by omega) ?_
  refine q_iload rfl rfl ?_
  refine q_aload_n rfl rfl ?_
  refine v_al rfl (ck_p1 hA) (by omega) (by decide) ?_
  refine v_ic_ge_f (t := 34) rfl (by decide) (by omega) ?_
  refine q_aload_n rfl rfl ?_
  refine q_iload rfl rfl ?_
  refine q_aload_n rfl rfl ?_
  refine q_iload rfl rfl ?_
  have h_11 := ir_1_4 hJ
  refine v_cv rfl rfl rfl rfl (by decide) ⟨⟨rfl, rfl⟩, by decide, rfl⟩ (Nat.le_of_ble_eq_true rfl) (Nat.le_of_ble_eq_true rfl) (fn_of (s_8 (a1 := 999) hJ (show (-1) ≤ 999 ∧ 999 ≤ 9999 from by omega) (fun c_12 y_15 hI_13 hF_14 hy_15 h_16 => ?_)))
  intro hG_17
  refine bk_inl ?_
  refine v_is rfl (ck_p1 hA) (by omega) (by decide) (by omega) ?_
  refine v_iinc (v := 4 * jr + 1) rfl rfl (by decide) (by omega) ?_
  refine q_goto (t := 3) rfl (by decide) ?_
  refine q_iload rfl rfl ?_
  refine q_iload_n rfl rfl ?_
  refine q_iload_n rfl rfl ?_
  refine v_iadd (v := 4 * jr + 4) rfl (by omega) ?_
  refine v_ic_ge_f (t := 34) rfl (by decide) (by omega) ?_
  refine q_iload rfl rfl ?_
  refine q_aload_n rfl rfl ?_
  refine v_al rfl (ck_p1 hA) (by omega) (by decide) ?_
  refine v_ic_ge_f (t := 34) rfl (by decide) (by omega) ?_
  refine q_aload_n rfl rfl ?_
  refine q_iload rfl rfl ?_
  refine q_aload_n rfl rfl ?_
  refine q_iload rfl rfl ?_
  have h_18 := ir_1_4 hI_13
  have hI_19 := iw_p1 (j := 4 * jr) (v := y_15) hI_13 hA ⟨by omega, by omega⟩
  refine v_cv rfl rfl rfl rfl (by decide) ⟨⟨rfl, rfl⟩, by decide, rfl⟩ (Nat.le_of_ble_eq_true rfl) (Nat.le_of_ble_eq_true rfl) (fn_of (s_8 (a1 := 999) hI_19 (show (-1) ≤ 999 ∧ 999 ≤ 9999 from by omega) (fun c_20 y_23 hI_21 hF_22 hy_23 h_24 => ?_)))
  intro hG_25
  refine bk_inl ?_
  refine v_is rfl (ck_p1 hA) (by omega) (by decide) (by omega) ?_
  refine v_iinc (v := 4 * jr + 2) rfl rfl (by decide) (by omega) ?_
  refine q_goto (t := 3) rfl (by decide) ?_
  refine q_iload rfl rfl ?_
  refine q_iload_n rfl rfl ?_
  refine q_iload_n rfl rfl ?_
  refine v_iadd (v := 4 * jr + 4) rfl (by omega) ?_
  refine v_ic_ge_f (t := 34) rfl (by decide) (by omega) ?_
  refine q_iload rfl rfl ?_
  refine q_aload_n rfl rfl ?_
  refine v_al rfl (ck_p1 hA) (by omega) (by decide) ?_
  refine v_ic_ge_f (t := 34) rfl (by decide) (by omega) ?_
  refine q_aload_n rfl rfl ?_
  refine q_iload rfl rfl ?_
  refine q_aload_n rfl rfl ?_
  refine q_iload rfl rfl ?_
  have h_26 := ir_1_4 hI_21
  have hI_27 := iw_p1 (j := 4 * jr + 1) (v := y_23) hI_21 hA ⟨by omega, by omega⟩
  refine v_cv rfl rfl rfl rfl (by decide) ⟨⟨rfl, rfl⟩, by decide, rfl⟩ (Nat.le_of_ble_eq_true rfl) (Nat.le_of_ble_eq_true rfl) (fn_of (s_8 (a1 := 999) hI_27 (show (-1) ≤ 999 ∧ 999 ≤ 9999 from by omega) (fun c_28 y_31 hI_29 hF_30 hy_31 h_32 => ?_)))
  intro hG_33
  refine bk_inl ?_
  refine v_is rfl (ck_p1 hA) (by omega) (by decide) (by omega) ?_
  refine v_iinc (v := 4 * jr + 3) rfl rfl (by decide) (by omega) ?_
  refine q_goto (t := 3) rfl (by decide) ?_
  refine q_iload rfl rfl ?_
  refine q_iload_n rfl rfl ?_
  refine q_iload_n rfl rfl ?_
  refine v_iadd (v := 4 * jr + 4) rfl (by omega) ?_
  refine v_ic_ge_f (t := 34) rfl (by decide) (by omega) ?_
  refine q_iload rfl rfl ?_
  refine q_aload_n rfl rfl ?_
  refine v_al rfl (ck_p1 hA) (by omega) (by decide) ?_
  refine v_ic_ge_f (t := 34) rfl (by decide) (by omega) ?_
  refine q_aload_n rfl rfl ?_
  refine q_iload rfl rfl ?_
  refine q_aload_n rfl rfl ?_
  refine q_iload rfl rfl ?_
  have h_34 := ir_1_4 hI_29
  have hI_35 := iw_p1 (j := 4 * jr + 2) (v := y_31) hI_29 hA ⟨by omega, by omega⟩
  refine v_cv rfl rfl rfl rfl (by decide) ⟨⟨rfl, rfl⟩, by decide, rfl⟩ (Nat.le_of_ble_eq_true rfl) (Nat.le_of_ble_eq_true rfl) (fn_of (s_8 (a1 := 999) hI_35 (show (-1) ≤ 999 ∧ 999 ≤ 9999 from by omega) (fun c_36 y_39 hI_37 hF_38 hy_39 h_40 => ?_)))
  intro hG_41
  refine bk_inl ?_
  refine v_is rfl (ck_p1 hA) (by omega) (by decide) (by omega) ?_
  refine v_iinc (v := 4 * jr + 4) rfl rfl (by decide) (by omega) ?_
  refine Wp_ls [(5, vi (4 * jr + 4)), (0, .ref 1), (1, .ref (A + 1)), (2, vi (4 * jr)), (3, vi 4), (4, vi 999)] (lsub_cons rfl (lsub_cons rfl (lsub_cons rfl (lsub_cons rfl (lsub_cons rfl (lsub_cons rfl lsub_nil)))))) ?_
  refine q_goto (t := 3) rfl (by decide) ?_
  refine q_iload rfl rfl ?_
  refine q_iload_n rfl rfl ?_
  refine q_iload_n rfl rfl ?_
  refine v_iadd (v := 4 * jr + 4) rfl (by omega) ?_
  refine v_ic_ge_t (t := 34) rfl (by decide) (by omega) ?_
  refine q_vret rfl rfl ?_
  refine bk_inl ?_
  refine q_aload_n rfl rfl ?_
  refine q_dup rfl rfl ?_
  have kn_42 : Hid (c_12 A 0 = jr) := (hF_14 A 0 (fun q => q.elim (fun h => absurd h.1 (np0 hA rfl)) (fun q => q.elim (fun h => absurd h.1 (np0 hA rfl)) (fun h => absurd h.1 (np0 hA rfl))))).trans (hg_jr)
  have kn_43 : Hid (c_20 A 0 = jr) := (hF_22 A 0 (fun q => q.elim (fun h => absurd h.1 (np0 hA rfl)) (fun q => q.elim (fun h => absurd h.1 (np0 hA rfl)) (fun h => absurd h.1 (np0 hA rfl))))).trans ((up_c (p0p rfl)).trans (hid kn_42))
  have kn_44 : Hid (c_28 A 0 = jr) := (hF_30 A 0 (fun q => q.elim (fun h => absurd h.1 (np0 hA rfl)) (fun q => q.elim (fun h => absurd h.1 (np0 hA rfl)) (fun h => absurd h.1 (np0 hA rfl))))).trans ((up_c (p0p rfl)).trans (hid kn_43))
  have kn_45 : Hid (c_36 A 0 = jr) := (hF_38 A 0 (fun q => q.elim (fun h => absurd h.1 (np0 hA rfl)) (fun q => q.elim (fun h => absurd h.1 (np0 hA rfl)) (fun h => absurd h.1 (np0 hA rfl))))).trans ((up_c (p0p rfl)).trans (hid kn_44))
  refine v_gi (z := 0) (v := jr) rfl rfl (ck_p0 hA) (by omega) rfl rfl ((up_c (p0p rfl)).trans (hid kn_45)) ?_
  refine q_iconst rfl ?_
  refine v_iadd (v := jr + 1) rfl (by omega) ?_
  refine v_pi (z := 0) rfl rfl (ck_p0 hA) (by omega) rfl rfl rfl (by decide) ?_
  refine q_goto (t := 126) rfl (by decide) ?_
  refine q_vret rfl rfl ?_
  have hI_46 := iw_p1 (j := 4 * jr + 3) (v := y_39) hI_37 hA ⟨by omega, by omega⟩
  have hI_47 := iw_p0_0 (v := jr + 1) hI_46 hA ⟨by omega, by omega⟩
  intro hE_48
  have hW : Wd P Q P P (up (up c_36 (A + 1) (4 * jr + 3) y_39) A 0 (jr + 1)) = Wd P Q P P m9 := (Prod.mk.inj (Prod.mk.inj hE_48).2).1
  have h_49 := ir_1_4 hI_37
  have h_50 := ir_1_4 hJ9
  have h_51 : m9 1 4 = c_36 1 4 := wd_fv (z := 4) 4 rfl hW rfl rfl rfl rfl (by decide) ((up_c (pn0 hA rfl)).trans (up_c (pn hA rfl rfl))) ⟨by omega, by omega⟩ ⟨by omega, by omega⟩
  have h_52 := ir_1_2 hI_37
  have h_53 := ir_1_2 hJ9
  have h_54 : m9 1 2 = c_36 1 2 := wd_fv (z := 2) 2 rfl hW rfl rfl rfl rfl (by decide) ((up_c (pn0 hA rfl)).trans (up_c (pn hA rfl rfl))) ⟨by omega, by omega⟩ ⟨by omega, by omega⟩
  have h_55 := ir_1_5 hI_37
  have h_56 := ir_1_5 hJ9
  have h_57 : m9 1 5 = c_36 1 5 := wd_fv (z := 5) 5 rfl hW rfl rfl rfl rfl (by decide) ((up_c (pn0 hA rfl)).trans (up_c (pn hA rfl rfl))) ⟨by omega, by omega⟩ ⟨by omega, by omega⟩
  have h_58 := ir_p0_0 hJ9 hA
  have h_59 : m9 A 0 = jr + 1 := wd_fv (z := 0) 0 rfl hW (ck_p0 hA) (ck_p0 hA) rfl rfl (by omega) (up_e rfl) ⟨by omega, by omega⟩ ⟨by omega, by omega⟩
  have kn_60 : Hid (c_12 A 1 = st) := (hF_14 A 1 (fun q => q.elim (fun h => absurd h.1 (np0 hA rfl)) (fun q => q.elim (fun h => absurd h.1 (np0 hA rfl)) (fun h => absurd h.1 (np0 hA rfl))))).trans (hg_st)
  have kn_61 : Hid (c_20 A 1 = st) := (hF_22 A 1 (fun q => q.elim (fun h => absurd h.1 (np0 hA rfl)) (fun q => q.elim (fun h => absurd h.1 (np0 hA rfl)) (fun h => absurd h.1 (np0 hA rfl))))).trans ((up_c (p0p rfl)).trans (hid kn_60))
  have kn_62 : Hid (c_28 A 1 = st) := (hF_30 A 1 (fun q => q.elim (fun h => absurd h.1 (np0 hA rfl)) (fun q => q.elim (fun h => absurd h.1 (np0 hA rfl)) (fun h => absurd h.1 (np0 hA rfl))))).trans ((up_c (p0p rfl)).trans (hid kn_61))
  have kn_63 : Hid (c_36 A 1 = st) := (hF_38 A 1 (fun q => q.elim (fun h => absurd h.1 (np0 hA rfl)) (fun q => q.elim (fun h => absurd h.1 (np0 hA rfl)) (fun h => absurd h.1 (np0 hA rfl))))).trans ((up_c (p0p rfl)).trans (hid kn_62))
  have h_64 := ir_p0_1 hJ9 hA
  have h_65 : m9 A 1 = st := wd_fv (z := 1) 1 rfl hW (ck_p0 hA) (ck_p0 hA) rfl rfl (by omega) ((up_n (by decide)).trans ((up_c (p0p rfl)).trans (hid kn_63))) ⟨by omega, by omega⟩ ⟨by omega, by omega⟩
  have kn_66 : Hid (c_12 A 2 = si) := (hF_14 A 2 (fun q => q.elim (fun h => absurd h.1 (np0 hA rfl)) (fun q => q.elim (fun h => absurd h.1 (np0 hA rfl)) (fun h => absurd h.1 (np0 hA rfl))))).trans (hg_si)
  have kn_67 : Hid (c_20 A 2 = si) := (hF_22 A 2 (fun q => q.elim (fun h => absurd h.1 (np0 hA rfl)) (fun q => q.elim (fun h => absurd h.1 (np0 hA rfl)) (fun h => absurd h.1 (np0 hA rfl))))).trans ((up_c (p0p rfl)).trans (hid kn_66))
  have kn_68 : Hid (c_28 A 2 = si) := (hF_30 A 2 (fun q => q.elim (fun h => absurd h.1 (np0 hA rfl)) (fun q => q.elim (fun h => absurd h.1 (np0 hA rfl)) (fun h => absurd h.1 (np0 hA rfl))))).trans ((up_c (p0p rfl)).trans (hid kn_67))
  have kn_69 : Hid (c_36 A 2 = si) := (hF_38 A 2 (fun q => q.elim (fun h => absurd h.1 (np0 hA rfl)) (fun q => q.elim (fun h => absurd h.1 (np0 hA rfl)) (fun h => absurd h.1 (np0 hA rfl))))).trans ((up_c (p0p rfl)).trans (hid kn_68))
  have h_70 := ir_p0_2 hJ9 hA
  have h_71 : m9 A 2 = si := wd_fv (z := 2) 2 rfl hW (ck_p0 hA) (ck_p0 hA) rfl rfl (by omega) ((up_n (by decide)).trans ((up_c (p0p rfl)).trans (hid kn_69))) ⟨by omega, by omega⟩ ⟨by omega, by omega⟩
  have kn_72 : Hid (c_12 A 3 = du) := (hF_14 A 3 (fun q => q.elim (fun h => absurd h.1 (np0 hA rfl)) (fun q => q.elim (fun h => absurd h.1 (np0 hA rfl)) (fun h => absurd h.1 (np0 hA rfl))))).trans (hg_du)
  have kn_73 : Hid (c_20 A 3 = du) := (hF_22 A 3 (fun q => q.elim (fun h => absurd h.1 (np0 hA rfl)) (fun q => q.elim (fun h => absurd h.1 (np0 hA rfl)) (fun h => absurd h.1 (np0 hA rfl))))).trans ((up_c (p0p rfl)).trans (hid kn_72))
  have kn_74 : Hid (c_28 A 3 = du) := (hF_30 A 3 (fun q => q.elim (fun h => absurd h.1 (np0 hA rfl)) (fun q => q.elim (fun h => absurd h.1 (np0 hA rfl)) (fun h => absurd h.1 (np0 hA rfl))))).trans ((up_c (p0p rfl)).trans (hid kn_73))
  have kn_75 : Hid (c_36 A 3 = du) := (hF_38 A 3 (fun q => q.elim (fun h => absurd h.1 (np0 hA rfl)) (fun q => q.elim (fun h => absurd h.1 (np0 hA rfl)) (fun h => absurd h.1 (np0 hA rfl))))).trans ((up_c (p0p rfl)).trans (hid kn_74))
  have h_76 := ir_p0_3 hJ9 hA
  have h_77 : m9 A 3 = du := wd_fv (z := 3) 3 rfl hW (ck_p0 hA) (ck_p0 hA) rfl rfl (by omega) ((up_n (by decide)).trans ((up_c (p0p rfl)).trans (hid kn_75))) ⟨by omega, by omega⟩ ⟨by omega, by omega⟩
  refine q_iload_n rfl rfl ?_
  refine q_ldc_s rfl rfl rfl (by decide) ?_
  refine q_call rfl rfl rfl rfl (s_158_16 ?_)
  refine bk_inl ?_
  refine v_ic_ne_f (t := 56) rfl (by decide) (by decide) ?_
  refine q_iconst rfl ?_
  refine q_istore_n rfl (by decide) ?_
  refine q_iload_n rfl rfl ?_
  refine q_iconst rfl ?_
  refine v_ic_ge_f (t := 43) rfl (by decide) (by decide) ?_
  refine q_aload_n rfl rfl ?_
  refine v_gr (t := 44) rfl rfl rfl (by decide) rfl ?_
  refine q_iconst rfl ?_
  refine q_aload_n rfl rfl ?_
  refine v_gi (z := 16) (v := jr) rfl rfl rfl (by decide) rfl rfl (hr_jr) ?_
  refine v_imul (v := 4 * jr) rfl (by omega) ?_
  refine q_iload_n rfl rfl ?_
  refine v_iadd (v := 4 * jr) rfl (by omega) ?_
  refine q_aload_n rfl rfl ?_
  refine q_iconst rfl ?_
  refine v_sip rfl (by decide) ?_
  have h_78 := ir_1_2 hJ
  refine v_cv rfl rfl rfl rfl (by decide) ⟨⟨rfl, rfl⟩, by decide, rfl⟩ (Nat.le_of_ble_eq_true rfl) (Nat.le_of_ble_eq_true rfl) (L_8 (m := m) (a2 := 999) (yg := y_15) (e1 := e1) (a9 := m 1 2) (F := F) (H := H) hI hJ hI_13 (show (-1) ≤ 999 ∧ 999 ≤ 9999 from by omega) ⟨by omega, by omega⟩ ((hg_e1)) ((hr_e1)) (rfl) (fun j => hF j) (fun j => hH j) hU hRt hG_17 (fun c_79 y_82 hI_80 hF_81 hy_82 hR_83 h_84 h_85 => ?_))
  refine bk_inl ?_
  have hs_86 := h_84.symm
  subst hs_86
  have h_87 := ir_1_2 hI_13
  refine v_is rfl rfl (by decide) (by decide) (by omega) ?_
  refine v_iinc (v := 1) rfl rfl (by decide) (by decide) ?_
  refine q_goto (t := 11) rfl (by decide) ?_
  refine q_iload_n rfl rfl ?_
  refine q_iconst rfl ?_
  refine v_ic_ge_f (t := 43) rfl (by decide) (by decide) ?_
  refine q_aload_n rfl rfl ?_
  refine v_gr (t := 44) rfl rfl rfl (by decide) rfl ?_
  refine q_iconst rfl ?_
  refine q_aload_n rfl rfl ?_
  have kn_88 : Hid (c_79 41 16 = jr) := (hF_81 41 16 (fun q => q.elim (fun h => absurd h.2 (ni rfl)) (fun q => q.elim (fun h => absurd h.2 (ni rfl)) (fun h => absurd h.2 (ni rfl))))).trans (hr_jr)
  refine v_gi (z := 16) (v := jr) rfl rfl rfl (by decide) rfl rfl ((up_c (nn rfl)).trans (hid kn_88)) ?_
  refine v_imul (v := 4 * jr) rfl (by omega) ?_
  refine q_iload_n rfl rfl ?_
  refine v_iadd (v := 4 * jr + 1) rfl (by omega) ?_
  refine q_aload_n rfl rfl ?_
  refine q_iconst rfl ?_
  refine v_sip rfl (by decide) ?_
  have hI_89 := iw_44 (j := 4 * jr) (v := y_15) hI_80 ⟨by omega, by omega⟩
  have kn_90 : Hid (c_12 1 1 = e1) := (hF_14 1 1 (fun q => q.elim (fun h => absurd h.2 (ni rfl)) (fun q => q.elim (fun h => absurd h.2 (ni rfl)) (fun h => absurd h.2 (ni rfl))))).trans (hg_e1)
  have kn_91 : Hid (c_79 41 3 = e1) := (hF_81 41 3 (fun q => q.elim (fun h => absurd h.2 (ni rfl)) (fun q => q.elim (fun h => absurd h.2 (ni rfl)) (fun h => absurd h.2 (ni rfl))))).trans (hr_e1)
  refine v_cv rfl rfl rfl rfl (by decide) ⟨⟨rfl, rfl⟩, by decide, rfl⟩ (Nat.le_of_ble_eq_true rfl) (Nat.le_of_ble_eq_true rfl) (L_8 (m := up c_12 (A + 1) (4 * jr) y_15) (a2 := 999) (yg := y_23) (e1 := e1) (a9 := c_12 1 2) (F := F) (H := H) hI_89 hI_19 hI_21 (show (-1) ≤ 999 ∧ 999 ≤ 9999 from by omega) ⟨by omega, by omega⟩ (((up_c (pn hA rfl rfl)).trans (hid kn_90))) (((up_c (nn rfl)).trans (hid kn_91))) ((up_c (pn hA rfl rfl))) (fun j => ((up_c (pn hA rfl rfl)).trans (hF_14 2 j (fun q => q.elim (fun h => absurd h.1 (nn rfl)) (fun q => q.elim (fun h => absurd h.1 (nn rfl)) (fun h => absurd h.1 (nn rfl)))))).trans (hF j)) (fun j => ((up_c (nn rfl)).trans (hF_81 43 j (fun q => q.elim (fun h => absurd h.1 (nn rfl)) (fun q => q.elim (fun h => absurd h.1 (nn rfl)) (fun h => absurd h.1 (nn rfl)))))).trans (hH j)) hU (rt_fr hR_83 (up_c (pn hA rfl rfl)) (up_c (pn hA rfl rfl)) (up_c (pn hA rfl rfl)) (up_c (nn rfl)) (up_c (nn rfl)) (up_c (nn rfl))) hG_25 (fun c_92 y_95 hI_93 hF_94 hy_95 hR_96 h_97 h_98 => ?_))
  refine bk_inl ?_
  have hs_99 := h_97.symm
  subst hs_99
  have h_100 := ir_1_2 hI_21
  refine v_is rfl rfl (by decide) (by decide) (by omega) ?_
  refine v_iinc (v := 2) rfl rfl (by decide) (by decide) ?_
  refine q_goto (t := 11) rfl (by decide) ?_
  refine q_iload_n rfl rfl ?_
  refine q_iconst rfl ?_
  refine v_ic_ge_f (t := 43) rfl (by decide) (by decide) ?_
  refine q_aload_n rfl rfl ?_
  refine v_gr (t := 44) rfl rfl rfl (by decide) rfl ?_
  refine q_iconst rfl ?_
  refine q_aload_n rfl rfl ?_
  have kn_101 : Hid (c_92 41 16 = jr) := (hF_94 41 16 (fun q => q.elim (fun h => absurd h.2 (ni rfl)) (fun q => q.elim (fun h => absurd h.2 (ni rfl)) (fun h => absurd h.2 (ni rfl))))).trans ((up_c (nn rfl)).trans (hid kn_88))
  refine v_gi (z := 16) (v := jr) rfl rfl rfl (by decide) rfl rfl ((up_c (nn rfl)).trans (hid kn_101)) ?_
  refine v_imul (v := 4 * jr) rfl (by omega) ?_
  refine q_iload_n rfl rfl ?_
  refine v_iadd (v := 4 * jr + 2) rfl (by omega) ?_
  refine q_aload_n rfl rfl ?_
  refine q_iconst rfl ?_
  refine v_sip rfl (by decide) ?_
  have hI_102 := iw_44 (j := 4 * jr + 1) (v := y_23) hI_93 ⟨by omega, by omega⟩
  have kn_103 : Hid (c_20 1 1 = e1) := (hF_22 1 1 (fun q => q.elim (fun h => absurd h.2 (ni rfl)) (fun q => q.elim (fun h => absurd h.2 (ni rfl)) (fun h => absurd h.2 (ni rfl))))).trans ((up_c (pn hA rfl rfl)).trans (hid kn_90))
  have kn_104 : Hid (c_92 41 3 = e1) := (hF_94 41 3 (fun q => q.elim (fun h => absurd h.2 (ni rfl)) (fun q => q.elim (fun h => absurd h.2 (ni rfl)) (fun h => absurd h.2 (ni rfl))))).trans ((up_c (nn rfl)).trans (hid kn_91))
  refine v_cv rfl rfl rfl rfl (by decide) ⟨⟨rfl, rfl⟩, by decide, rfl⟩ (Nat.le_of_ble_eq_true rfl) (Nat.le_of_ble_eq_true rfl) (L_8 (m := up c_20 (A + 1) (4 * jr + 1) y_23) (a2 := 999) (yg := y_31) (e1 := e1) (a9 := c_20 1 2) (F := F) (H := H) hI_102 hI_27 hI_29 (show (-1) ≤ 999 ∧ 999 ≤ 9999 from by omega) ⟨by omega, by omega⟩ (((up_c (pn hA rfl rfl)).trans (hid kn_103))) (((up_c (nn rfl)).trans (hid kn_104))) ((up_c (pn hA rfl rfl))) (fun j => ((up_c (pn hA rfl rfl)).trans ((hF_22 2 j (fun q => q.elim (fun h => absurd h.1 (nn rfl)) (fun q => q.elim (fun h => absurd h.1 (nn rfl)) (fun h => absurd h.1 (nn rfl))))).trans ((up_c (pn hA rfl rfl)).trans (hF_14 2 j (fun q => q.elim (fun h => absurd h.1 (nn rfl)) (fun q => q.elim (fun h => absurd h.1 (nn rfl)) (fun h => absurd h.1 (nn rfl)))))))).trans (hF j)) (fun j => ((up_c (nn rfl)).trans ((hF_94 43 j (fun q => q.elim (fun h => absurd h.1 (nn rfl)) (fun q => q.elim (fun h => absurd h.1 (nn rfl)) (fun h => absurd h.1 (nn rfl))))).trans ((up_c (nn rfl)).trans (hF_81 43 j (fun q => q.elim (fun h => absurd h.1 (nn rfl)) (fun q => q.elim (fun h => absurd h.1 (nn rfl)) (fun h => absurd h.1 (nn rfl)))))))).trans (hH j)) hU (rt_fr hR_96 (up_c (pn hA rfl rfl)) (up_c (pn hA rfl rfl)) (up_c (pn hA rfl rfl)) (up_c (nn rfl)) (up_c (nn rfl)) (up_c (nn rfl))) hG_33 (fun c_105 y_108 hI_106 hF_107 hy_108 hR_109 h_110 h_111 => ?_))
  refine bk_inl ?_
  have hs_112 := h_110.symm
  subst hs_112
  have h_113 := ir_1_2 hI_29
  refine v_is rfl rfl (by decide) (by decide) (by omega) ?_
  refine v_iinc (v := 3) rfl rfl (by decide) (by decide) ?_
  refine q_goto (t := 11) rfl (by decide) ?_
  refine q_iload_n rfl rfl ?_
  refine q_iconst rfl ?_
  refine v_ic_ge_f (t := 43) rfl (by decide) (by decide) ?_
  refine q_aload_n rfl rfl ?_
  refine v_gr (t := 44) rfl rfl rfl (by decide) rfl ?_
  refine q_iconst rfl ?_
  refine q_aload_n rfl rfl ?_
  have kn_114 : Hid (c_105 41 16 = jr) := (hF_107 41 16 (fun q => q.elim (fun h => absurd h.2 (ni rfl)) (fun q => q.elim (fun h => absurd h.2 (ni rfl)) (fun h => absurd h.2 (ni rfl))))).trans ((up_c (nn rfl)).trans (hid kn_101))
  refine v_gi (z := 16) (v := jr) rfl rfl rfl (by decide) rfl rfl ((up_c (nn rfl)).trans (hid kn_114)) ?_
  refine v_imul (v := 4 * jr) rfl (by omega) ?_
  refine q_iload_n rfl rfl ?_
  refine v_iadd (v := 4 * jr + 3) rfl (by omega) ?_
  refine q_aload_n rfl rfl ?_
  refine q_iconst rfl ?_
  refine v_sip rfl (by decide) ?_
  have hI_115 := iw_44 (j := 4 * jr + 2) (v := y_31) hI_106 ⟨by omega, by omega⟩
  have kn_116 : Hid (c_28 1 1 = e1) := (hF_30 1 1 (fun q => q.elim (fun h => absurd h.2 (ni rfl)) (fun q => q.elim (fun h => absurd h.2 (ni rfl)) (fun h => absurd h.2 (ni rfl))))).trans ((up_c (pn hA rfl rfl)).trans (hid kn_103))
  have kn_117 : Hid (c_105 41 3 = e1) := (hF_107 41 3 (fun q => q.elim (fun h => absurd h.2 (ni rfl)) (fun q => q.elim (fun h => absurd h.2 (ni rfl)) (fun h => absurd h.2 (ni rfl))))).trans ((up_c (nn rfl)).trans (hid kn_104))
  refine v_cv rfl rfl rfl rfl (by decide) ⟨⟨rfl, rfl⟩, by decide, rfl⟩ (Nat.le_of_ble_eq_true rfl) (Nat.le_of_ble_eq_true rfl) (L_8 (m := up c_28 (A + 1) (4 * jr + 2) y_31) (a2 := 999) (yg := y_39) (e1 := e1) (a9 := c_28 1 2) (F := F) (H := H) hI_115 hI_35 hI_37 (show (-1) ≤ 999 ∧ 999 ≤ 9999 from by omega) ⟨by omega, by omega⟩ (((up_c (pn hA rfl rfl)).trans (hid kn_116))) (((up_c (nn rfl)).trans (hid kn_117))) ((up_c (pn hA rfl rfl))) (fun j => ((up_c (pn hA rfl rfl)).trans ((hF_30 2 j (fun q => q.elim (fun h => absurd h.1 (nn rfl)) (fun q => q.elim (fun h => absurd h.1 (nn rfl)) (fun h => absurd h.1 (nn rfl))))).trans ((up_c (pn hA rfl rfl)).trans ((hF_22 2 j (fun q => q.elim (fun h => absurd h.1 (nn rfl)) (fun q => q.elim (fun h => absurd h.1 (nn rfl)) (fun h => absurd h.1 (nn rfl))))).trans ((up_c (pn hA rfl rfl)).trans (hF_14 2 j (fun q => q.elim (fun h => absurd h.1 (nn rfl)) (fun q => q.elim (fun h => absurd h.1 (nn rfl)) (fun h => absurd h.1 (nn rfl)))))))))).trans (hF j)) (fun j => ((up_c (nn rfl)).trans ((hF_107 43 j (fun q => q.elim (fun h => absurd h.1 (nn rfl)) (fun q => q.elim (fun h => absurd h.1 (nn rfl)) (fun h => absurd h.1 (nn rfl))))).trans ((up_c (nn rfl)).trans ((hF_94 43 j (fun q => q.elim (fun h => absurd h.1 (nn rfl)) (fun q => q.elim (fun h => absurd h.1 (nn rfl)) (fun h => absurd h.1 (nn rfl))))).trans ((up_c (nn rfl)).trans (hF_81 43 j (fun q => q.elim (fun h => absurd h.1 (nn rfl)) (fun q => q.elim (fun h => absurd h.1 (nn rfl)) (fun h => absurd h.1 (nn rfl)))))))))).trans (hH j)) hU (rt_fr hR_109 (up_c (pn hA rfl rfl)) (up_c (pn hA rfl rfl)) (up_c (pn hA rfl rfl)) (up_c (nn rfl)) (up_c (nn rfl)) (up_c (nn rfl))) hG_41 (fun c_118 y_121 hI_119 hF_120 hy_121 hR_122 h_123 h_124 => ?_))
  refine bk_inl ?_
  have hs_125 := h_123.symm
  subst hs_125
  refine v_is rfl rfl (by decide) (by decide) (by omega) ?_
  refine v_iinc (v := 4) rfl rfl (by decide) (by decide) ?_
  refine Wp_ls [(2, vi 4), (0, .ref 41), (1, vi 10290)] (lsub_cons rfl (lsub_cons rfl (lsub_cons rfl lsub_nil))) ?_
  refine q_goto (t := 11) rfl (by decide) ?_
  refine q_iload_n rfl rfl ?_
  refine q_iconst rfl ?_
  refine v_ic_ge_t (t := 43) rfl (by decide) (by decide) ?_
  refine q_aload_n rfl rfl ?_
  refine q_dup rfl rfl ?_
  have kn_126 : Hid (c_118 41 16 = jr) := (hF_120 41 16 (fun q => q.elim (fun h => absurd h.2 (ni rfl)) (fun q => q.elim (fun h => absurd h.2 (ni rfl)) (fun h => absurd h.2 (ni rfl))))).trans ((up_c (nn rfl)).trans (hid kn_114))
  refine v_gi (z := 16) (v := jr) rfl rfl rfl (by decide) rfl rfl ((up_c (nn rfl)).trans (hid kn_126)) ?_
  refine q_iconst rfl ?_
  refine v_iadd (v := jr + 1) rfl (by omega) ?_
  refine v_pi (z := 16) rfl rfl rfl (by decide) rfl rfl rfl (by decide) ?_
  refine q_goto (t := 159) rfl (by decide) ?_
  refine q_vret rfl rfl ?_
  have hI_127 := iw_44 (j := 4 * jr + 3) (v := y_39) hI_119 ⟨by omega, by omega⟩
  have hI_128 := iw_41_16 (v := jr + 1) hI_127 ⟨by omega, by omega⟩
  have h_129 := ir_41_5 hI_119
  have h_130 := ir_41_4 hI_119
  have h_131 := ir_41_6 hI_119
  have h_132 := rt_or hR_122
  have h_133 : (up (up c_118 44 (4 * jr + 3) y_39) 41 16 (jr + 1)) 41 5 = c_118 41 5 := ((up_n (by decide)).trans (up_c (nn rfl)))
  have h_134 : (up (up c_118 44 (4 * jr + 3) y_39) 41 16 (jr + 1)) 41 4 = c_118 41 4 := ((up_n (by decide)).trans (up_c (nn rfl)))
  have h_135 : (up (up c_118 44 (4 * jr + 3) y_39) 41 16 (jr + 1)) 41 6 = c_118 41 6 := ((up_n (by decide)).trans (up_c (nn rfl)))
  have h_136 : (up (up c_118 44 (4 * jr + 3) y_39) 41 16 (jr + 1)) 41 16 = jr + 1 := (up_e rfl)
  have kn_137 : Hid (c_79 41 17 = st) := (hF_81 41 17 (fun q => q.elim (fun h => absurd h.2 (ni rfl)) (fun q => q.elim (fun h => absurd h.2 (ni rfl)) (fun h => absurd h.2 (ni rfl))))).trans (hr_st)
  have kn_138 : Hid (c_92 41 17 = st) := (hF_94 41 17 (fun q => q.elim (fun h => absurd h.2 (ni rfl)) (fun q => q.elim (fun h => absurd h.2 (ni rfl)) (fun h => absurd h.2 (ni rfl))))).trans ((up_c (nn rfl)).trans (hid kn_137))
  have kn_139 : Hid (c_105 41 17 = st) := (hF_107 41 17 (fun q => q.elim (fun h => absurd h.2 (ni rfl)) (fun q => q.elim (fun h => absurd h.2 (ni rfl)) (fun h => absurd h.2 (ni rfl))))).trans ((up_c (nn rfl)).trans (hid kn_138))
  have kn_140 : Hid (c_118 41 17 = st) := (hF_120 41 17 (fun q => q.elim (fun h => absurd h.2 (ni rfl)) (fun q => q.elim (fun h => absurd h.2 (ni rfl)) (fun h => absurd h.2 (ni rfl))))).trans ((up_c (nn rfl)).trans (hid kn_139))
  have h_141 : (up (up c_118 44 (4 * jr + 3) y_39) 41 16 (jr + 1)) 41 17 = st := ((up_n (by decide)).trans ((up_c (nn rfl)).trans (hid kn_140)))
  have kn_142 : Hid (c_79 41 18 = si) := (hF_81 41 18 (fun q => q.elim (fun h => absurd h.2 (ni rfl)) (fun q => q.elim (fun h => absurd h.2 (ni rfl)) (fun h => absurd h.2 (ni rfl))))).trans (hr_si)
  have kn_143 : Hid (c_92 41 18 = si) := (hF_94 41 18 (fun q => q.elim (fun h => absurd h.2 (ni rfl)) (fun q => q.elim (fun h => absurd h.2 (ni rfl)) (fun h => absurd h.2 (ni rfl))))).trans ((up_c (nn rfl)).trans (hid kn_142))
  have kn_144 : Hid (c_105 41 18 = si) := (hF_107 41 18 (fun q => q.elim (fun h => absurd h.2 (ni rfl)) (fun q => q.elim (fun h => absurd h.2 (ni rfl)) (fun h => absurd h.2 (ni rfl))))).trans ((up_c (nn rfl)).trans (hid kn_143))
  have kn_145 : Hid (c_118 41 18 = si) := (hF_120 41 18 (fun q => q.elim (fun h => absurd h.2 (ni rfl)) (fun q => q.elim (fun h => absurd h.2 (ni rfl)) (fun h => absurd h.2 (ni rfl))))).trans ((up_c (nn rfl)).trans (hid kn_144))
  have h_146 : (up (up c_118 44 (4 * jr + 3) y_39) 41 16 (jr + 1)) 41 18 = si := ((up_n (by decide)).trans ((up_c (nn rfl)).trans (hid kn_145)))
  have kn_147 : Hid (c_79 41 19 = du) := (hF_81 41 19 (fun q => q.elim (fun h => absurd h.2 (ni rfl)) (fun q => q.elim (fun h => absurd h.2 (ni rfl)) (fun h => absurd h.2 (ni rfl))))).trans (hr_du)
  have kn_148 : Hid (c_92 41 19 = du) := (hF_94 41 19 (fun q => q.elim (fun h => absurd h.2 (ni rfl)) (fun q => q.elim (fun h => absurd h.2 (ni rfl)) (fun h => absurd h.2 (ni rfl))))).trans ((up_c (nn rfl)).trans (hid kn_147))
  have kn_149 : Hid (c_105 41 19 = du) := (hF_107 41 19 (fun q => q.elim (fun h => absurd h.2 (ni rfl)) (fun q => q.elim (fun h => absurd h.2 (ni rfl)) (fun h => absurd h.2 (ni rfl))))).trans ((up_c (nn rfl)).trans (hid kn_148))
  have kn_150 : Hid (c_118 41 19 = du) := (hF_120 41 19 (fun q => q.elim (fun h => absurd h.2 (ni rfl)) (fun q => q.elim (fun h => absurd h.2 (ni rfl)) (fun h => absurd h.2 (ni rfl))))).trans ((up_c (nn rfl)).trans (hid kn_149))
  have h_151 : (up (up c_118 44 (4 * jr + 3) y_39) 41 16 (jr + 1)) 41 19 = du := ((up_n (by decide)).trans ((up_c (nn rfl)).trans (hid kn_150)))
  have h_152 : (up (up c_118 44 (4 * jr + 3) y_39) 41 16 (jr + 1)) 41 16 = jr + 1 := (up_e rfl)
  have hA_153 : Ae (4 * jr + 1) ((up c_12 (A + 1) (4 * jr) y_15) (A + 1)) ((up c_79 44 (4 * jr) y_15) 44) := ae_w (i := 4 * jr) (v := y_15) hr0 (by omega) (up_e rfl) (up_e rfl) (fun j hj => (up_n hj).trans (hF_14 (A + 1) j (fun q => q.elim (fun h => absurd h.1 (np hA rfl rfl)) (fun q => q.elim (fun h => absurd h.1 (np hA rfl rfl)) (fun h => absurd h.1 (np hA rfl rfl)))))) (fun j hj => (up_n hj).trans (hF_81 44 j (fun q => q.elim (fun h => absurd h.1 (nn rfl)) (fun q => q.elim (fun h => absurd h.1 (nn rfl)) (fun h => absurd h.1 (nn rfl))))))
  have hA_154 : Ae (4 * jr + 2) ((up c_20 (A + 1) (4 * jr + 1) y_23) (A + 1)) ((up c_92 44 (4 * jr + 1) y_23) 44) := ae_w (i := 4 * jr + 1) (v := y_23) hA_153 (by omega) (up_e rfl) (up_e rfl) (fun j hj => (up_n hj).trans (hF_22 (A + 1) j (fun q => q.elim (fun h => absurd h.1 (np hA rfl rfl)) (fun q => q.elim (fun h => absurd h.1 (np hA rfl rfl)) (fun h => absurd h.1 (np hA rfl rfl)))))) (fun j hj => (up_n hj).trans (hF_94 44 j (fun q => q.elim (fun h => absurd h.1 (nn rfl)) (fun q => q.elim (fun h => absurd h.1 (nn rfl)) (fun h => absurd h.1 (nn rfl))))))
  have hA_155 : Ae (4 * jr + 3) ((up c_28 (A + 1) (4 * jr + 2) y_31) (A + 1)) ((up c_105 44 (4 * jr + 2) y_31) 44) := ae_w (i := 4 * jr + 2) (v := y_31) hA_154 (by omega) (up_e rfl) (up_e rfl) (fun j hj => (up_n hj).trans (hF_30 (A + 1) j (fun q => q.elim (fun h => absurd h.1 (np hA rfl rfl)) (fun q => q.elim (fun h => absurd h.1 (np hA rfl rfl)) (fun h => absurd h.1 (np hA rfl rfl)))))) (fun j hj => (up_n hj).trans (hF_107 44 j (fun q => q.elim (fun h => absurd h.1 (nn rfl)) (fun q => q.elim (fun h => absurd h.1 (nn rfl)) (fun h => absurd h.1 (nn rfl))))))
  have hA_156 : Ae (4 * jr + 4) ((up (up c_36 (A + 1) (4 * jr + 3) y_39) A 0 (jr + 1)) (A + 1)) ((up (up c_118 44 (4 * jr + 3) y_39) 41 16 (jr + 1)) 44) := ae_w (i := 4 * jr + 3) (v := y_39) hA_155 (by omega) ((up_c (pp0 rfl)).trans (up_e rfl)) ((up_c (nn rfl)).trans (up_e rfl)) (fun j hj => (up_c (pp0 rfl)).trans ((up_n hj).trans (hF_38 (A + 1) j (fun q => q.elim (fun h => absurd h.1 (np hA rfl rfl)) (fun q => q.elim (fun h => absurd h.1 (np hA rfl rfl)) (fun h => absurd h.1 (np hA rfl rfl))))))) (fun j hj => (up_c (nn rfl)).trans ((up_n hj).trans (hF_120 44 j (fun q => q.elim (fun h => absurd h.1 (nn rfl)) (fun q => q.elim (fun h => absurd h.1 (nn rfl)) (fun h => absurd h.1 (nn rfl)))))))
  have hA_157 : Ae (4 * jr + 4) (m9 (A + 1)) ((up (up c_118 44 (4 * jr + 3) y_39) 41 16 (jr + 1)) 44) := ae_l hA_156 (fun j h1 h2 => wd_av hW (ck_p1 hA) (ck_p1 hA) (by decide) (by omega) ⟨h1, by omega⟩ rfl (wide (ir_p1 hI_47 hA j) (by decide) (by decide)) (wide (ir_p1 hJ9 hA j) (by decide) (by decide)))
  have h_158 : (up (up c_118 44 (4 * jr + 3) y_39) 41 16 (jr + 1)) 41 17 = st := ((up_n (by decide)).trans ((up_c (nn rfl)).trans (hid kn_140)))
  have hA_159 : Ae (3 * st) ((up (up c_36 (A + 1) (4 * jr + 3) y_39) A 0 (jr + 1)) (A + 2)) ((up (up c_118 44 (4 * jr + 3) y_39) 41 16 (jr + 1)) 45) := ae_fr hr1 (fun j => (up_c (pp0 rfl)).trans ((up_c (pp rfl)).trans ((hF_38 (A + 2) j (fun q => q.elim (fun h => absurd h.1 (np hA rfl rfl)) (fun q => q.elim (fun h => absurd h.1 (np hA rfl rfl)) (fun h => absurd h.1 (np hA rfl rfl))))).trans ((up_c (pp rfl)).trans ((hF_30 (A + 2) j (fun q => q.elim (fun h => absurd h.1 (np hA rfl rfl)) (fun q => q.elim (fun h => absurd h.1 (np hA rfl rfl)) (fun h => absurd h.1 (np hA rfl rfl))))).trans ((up_c (pp rfl)).trans ((hF_22 (A + 2) j (fun q => q.elim (fun h => absurd h.1 (np hA rfl rfl)) (fun q => q.elim (fun h => absurd h.1 (np hA rfl rfl)) (fun h => absurd h.1 (np hA rfl rfl))))).trans ((up_c (pp rfl)).trans (hF_14 (A + 2) j (fun q => q.elim (fun h => absurd h.1 (np hA rfl rfl)) (fun q => q.elim (fun h => absurd h.1 (np hA rfl rfl)) (fun h => absurd h.1 (np hA rfl rfl))))))))))))) (fun j => (up_c (nn rfl)).trans ((up_c (nn rfl)).trans ((hF_120 45 j (fun q => q.elim (fun h => absurd h.1 (nn rfl)) (fun q => q.elim (fun h => absurd h.1 (nn rfl)) (fun h => absurd h.1 (nn rfl))))).trans ((up_c (nn rfl)).trans ((hF_107 45 j (fun q => q.elim (fun h => absurd h.1 (nn rfl)) (fun q => q.elim (fun h => absurd h.1 (nn rfl)) (fun h => absurd h.1 (nn rfl))))).trans ((up_c (nn rfl)).trans ((hF_94 45 j (fun q => q.elim (fun h => absurd h.1 (nn rfl)) (fun q => q.elim (fun h => absurd h.1 (nn rfl)) (fun h => absurd h.1 (nn rfl))))).trans ((up_c (nn rfl)).trans (hF_81 45 j (fun q => q.elim (fun h => absurd h.1 (nn rfl)) (fun q => q.elim (fun h => absurd h.1 (nn rfl)) (fun h => absurd h.1 (nn rfl)))))))))))))
  have hA_160 : Ae (3 * st) (m9 (A + 2)) ((up (up c_118 44 (4 * jr + 3) y_39) 41 16 (jr + 1)) 45) := ae_l hA_159 (fun j h1 h2 => wd_av hW (ck_p2 hA) (ck_p2 hA) (by decide) (by omega) ⟨h1, by omega⟩ rfl (wide (ir_p2 hI_47 hA j) (by decide) (by decide)) (wide (ir_p2 hJ9 hA j) (by decide) (by decide)))
  have h_161 : (up (up c_118 44 (4 * jr + 3) y_39) 41 16 (jr + 1)) 41 18 = si := ((up_n (by decide)).trans ((up_c (nn rfl)).trans (hid kn_145)))
  have hA_162 : Ae si ((up (up c_36 (A + 1) (4 * jr + 3) y_39) A 0 (jr + 1)) (A + 3)) ((up (up c_118 44 (4 * jr + 3) y_39) 41 16 (jr + 1)) 46) := ae_fr hr2 (fun j => (up_c (pp0 rfl)).trans ((up_c (pp rfl)).trans ((hF_38 (A + 3) j (fun q => q.elim (fun h => absurd h.1 (np hA rfl rfl)) (fun q => q.elim (fun h => absurd h.1 (np hA rfl rfl)) (fun h => absurd h.1 (np hA rfl rfl))))).trans ((up_c (pp rfl)).trans ((hF_30 (A + 3) j (fun q => q.elim (fun h => absurd h.1 (np hA rfl rfl)) (fun q => q.elim (fun h => absurd h.1 (np hA rfl rfl)) (fun h => absurd h.1 (np hA rfl rfl))))).trans ((up_c (pp rfl)).trans ((hF_22 (A + 3) j (fun q => q.elim (fun h => absurd h.1 (np hA rfl rfl)) (fun q => q.elim (fun h => absurd h.1 (np hA rfl rfl)) (fun h => absurd h.1 (np hA rfl rfl))))).trans ((up_c (pp rfl)).trans (hF_14 (A + 3) j (fun q => q.elim (fun h => absurd h.1 (np hA rfl rfl)) (fun q => q.elim (fun h => absurd h.1 (np hA rfl rfl)) (fun h => absurd h.1 (np hA rfl rfl))))))))))))) (fun j => (up_c (nn rfl)).trans ((up_c (nn rfl)).trans ((hF_120 46 j (fun q => q.elim (fun h => absurd h.1 (nn rfl)) (fun q => q.elim (fun h => absurd h.1 (nn rfl)) (fun h => absurd h.1 (nn rfl))))).trans ((up_c (nn rfl)).trans ((hF_107 46 j (fun q => q.elim (fun h => absurd h.1 (nn rfl)) (fun q => q.elim (fun h => absurd h.1 (nn rfl)) (fun h => absurd h.1 (nn rfl))))).trans ((up_c (nn rfl)).trans ((hF_94 46 j (fun q => q.elim (fun h => absurd h.1 (nn rfl)) (fun q => q.elim (fun h => absurd h.1 (nn rfl)) (fun h => absurd h.1 (nn rfl))))).trans ((up_c (nn rfl)).trans (hF_81 46 j (fun q => q.elim (fun h => absurd h.1 (nn rfl)) (fun q => q.elim (fun h => absurd h.1 (nn rfl)) (fun h => absurd h.1 (nn rfl)))))))))))))
  have hA_163 : Ae si (m9 (A + 3)) ((up (up c_118 44 (4 * jr + 3) y_39) 41 16 (jr + 1)) 46) := ae_l hA_162 (fun j h1 h2 => wd_av hW (ck_p3 hA) (ck_p3 hA) (by decide) (by omega) ⟨h1, by omega⟩ rfl (wide (ir_p3 hI_47 hA j) (by decide) (by decide)) (wide (ir_p3 hJ9 hA j) (by decide) (by decide)))
  exact K (up (up c_118 44 (4 * jr + 3) y_39) 41 16 (jr + 1))  hI_128 (fun a j hm => (up_b (Decidable.or_iff_not_imp_left.mpr (fun h1 h2 => hm (Or.inr (Or.inr (Or.inr (Or.inl ⟨Decidable.not_not.mp h1, h2⟩))))))).trans ((up_b (Decidable.or_iff_not_imp_left.mpr (fun h1 h2 => hm (Or.inr (Or.inr (Or.inr (Or.inr (Or.inr (Or.inr (Or.inr (Or.inl (Decidable.not_not.mp h1)))))))))))).trans ((hF_120 a j (fun q => q.elim (fun h => hm (Or.inl h)) (fun q => q.elim (fun h => hm (Or.inr (Or.inl h))) (fun h => hm (Or.inr (Or.inr (Or.inl h))))))).trans ((up_b (Decidable.or_iff_not_imp_left.mpr (fun h1 h2 => hm (Or.inr (Or.inr (Or.inr (Or.inr (Or.inr (Or.inr (Or.inr (Or.inl (Decidable.not_not.mp h1)))))))))))).trans ((hF_107 a j (fun q => q.elim (fun h => hm (Or.inl h)) (fun q => q.elim (fun h => hm (Or.inr (Or.inl h))) (fun h => hm (Or.inr (Or.inr (Or.inl h))))))).trans ((up_b (Decidable.or_iff_not_imp_left.mpr (fun h1 h2 => hm (Or.inr (Or.inr (Or.inr (Or.inr (Or.inr (Or.inr (Or.inr (Or.inl (Decidable.not_not.mp h1)))))))))))).trans ((hF_94 a j (fun q => q.elim (fun h => hm (Or.inl h)) (fun q => q.elim (fun h => hm (Or.inr (Or.inl h))) (fun h => hm (Or.inr (Or.inr (Or.inl h))))))).trans ((up_b (Decidable.or_iff_not_imp_left.mpr (fun h1 h2 => hm (Or.inr (Or.inr (Or.inr (Or.inr (Or.inr (Or.inr (Or.inr (Or.inl (Decidable.not_not.mp h1)))))))))))).trans (hF_81 a j (fun q => q.elim (fun h => hm (Or.inl h)) (fun q => q.elim (fun h => hm (Or.inr (Or.inl h))) (fun h => hm (Or.inr (Or.inr (Or.inl h))))))))))))))) (by unfold Rt; omega) (by omega) (by omega) (by omega) (by omega) (ae_le hA_157 (by omega)) (ae_le hA_160 (by omega)) (ae_le hA_163 (by omega))

set_option maxRecDepth 100000 in
set_option maxHeartbeats 4000000 in
theorem L_33a_1 {sc : List Int32} {e eg : Int} {d dh u ug P Q P2 Q2 A : Nat} {c m m9 : ME} {e1 jr st si du : Int} {F H : Int → Int} {Z : AR → Prop} (hI : Iv u e P2 Q2 c) (hJ : Iv ug eg P Q m) (hJ9 : Iv ug eg P Q m9) (hA : A = 13 ∨ A = 25) (hq0 : (st ≤ 3)) (hg_e1 : m 1 1 = e1) (hr_e1 : c 41 3 = e1) (hg_jr : m A 0 = jr) (hr_jr : c 41 16 = jr) (hg_st : m A 1 = st) (hr_st : c 41 17 = st) (hg_si : m A 2 = si) (hr_si : c 41 18 = si) (hg_du : m A 3 = du) (hr_du : c 41 19 = du) (hF : ∀ j : Int, m 2 j = F j) (hH : ∀ j : Int, c 43 j = H j) (hU : Ub F H) (hRt : Rt m c) (hr0 : Ae (4 * jr) (m (A + 1)) (c 44)) (hr1 : Ae (3 * st) (m (A + 2)) (c 45)) (hr2 : Ae si (m (A + 3)) (c 46)) (hG : Wp sc (dh + 18) 33 0 [(0, .ref A), (1, .ref 1), (2, vi 1)] [] (Wd P Q P P m) 0 0 (fun q => q = (.inl (none), Wd P Q P P m9, 0, 0))) (K : ∀ (c2 : ME), Iv u e P2 Q2 c2 → (∀ (a : Nat) (j : Int), ¬ ((a = 41 ∧ j = 4) ∨ (a = 41 ∧ j = 5) ∨ (a = 41 ∧ j = 6) ∨ (a = 41 ∧ j = 16) ∨ (a = 41 ∧ j = 17) ∨ (a = 41 ∧ j = 18) ∨ (a = 41 ∧ j = 19) ∨ a = 44 ∨ a = 45 ∨ a = 46) → c2 a j = c a j) → (Rt m9 c2) → ((m9 A 0 = c2 41 16)) → ((m9 A 1 = c2 41 17)) → ((m9 A 2 = c2 41 18)) → ((m9 A 3 = c2 41 19)) → (Ae (4 * c2 41 16) (m9 (A + 1)) (c2 44)) → (Ae (3 * c2 41 17) (m9 (A + 2)) (c2 45)) → (Ae (c2 41 18) (m9 (A + 3)) (c2 46)) → Z (.inl (none), Wd P2 Q2 P2 P2 c2, 0, 0)) : Wp sc (d + 18) 168 0 [(0, .ref 41), (1, vi 20594117)] [] (Wd P2 Q2 P2 P2 c) 0 0 Z := by
  have hP := iv_P hJ
  have hQ := iv_Q hJ
  have h_1 := ir_1_1 hJ
  have h_2 := ir_41_3 hI
  have h_3 := ir_p0_0 hJ hA
  have h_4 := ir_41_16 hI
  have h_5 := ir_p0_1 hJ hA
  have h_6 := ir_41_17 hI
  have h_7 := ir_p0_2 hJ hA
  have h_8 := ir_41_18 hI
  have h_9 := ir_p0_3 hJ hA
  have h_10 := ir_41_19 hI
  refine gh hG ?_
  refine q_iload_n rfl rfl ?_
  refine v_tsw_i (t := 59) 1 rfl (by omega) (by decide) rfl (by decide) ?_
  refine q_aload_n rfl rfl ?_
  refine q_aload_n rfl rfl ?_
  refine v_gr (t := (A + 2)) rfl rfl (ck_p0 hA) (by omega) rfl ?_
  refine q_aload_n rfl rfl ?_
  refine v_gi (z := 1) (v := st) rfl rfl (ck_p0 hA) (by omega) rfl rfl (hg_st) ?_
  refine q_iconst rfl ?_
  refine v_imul (v := 3 * st) rfl (by omega) ?_
  refine q_iconst rfl ?_
  refine v_bip rfl (by decide) ?_
  refine q_call rfl rfl rfl rfl ?_
  refine q_iload_n rfl rfl ?_
  refine q_istore rfl (by decide) ?_
  refine q_iload rfl rfl ?_
  refine q_iload_n rfl rfl ?_
  refine q_iload_n rfl rfl ?_
  refine v_iadd (v := 3 * st + 3) rfl (by omega) ?_
  refine v_ic_ge_f (t := 34) rfl (by decide) (by omega) ?_
  refine q_iload rfl rfl ?_
  refine q_aload_n rfl rfl ?_
  refine v_al rfl (ck_p2 hA) (by omega) (by decide) ?_
  refine v_ic_ge_f (t := 34) rfl (by decide) (by omega) ?_
  refine q_aload_n rfl rfl ?_
  refine q_iload rfl rfl ?_
  refine q_aload_n rfl rfl ?_
  refine q_iload rfl rfl ?_
  have h_11 := ir_1_4 hJ
  refine v_cv rfl rfl rfl rfl (by decide) ⟨⟨rfl, rfl⟩, by decide, rfl⟩ (Nat.le_of_ble_eq_true rfl) (Nat.le_of_ble_eq_true rfl) (fn_of (s_8 (a1 := 10) hJ (show (-1) ≤ 10 ∧ 10 ≤ 9999 from by omega) (fun c_12 y_15 hI_13 hF_14 hy_15 h_16 => ?_)))
  intro hG_17
  refine bk_inl ?_
  refine v_is rfl (ck_p2 hA) (by omega) (by decide) (by omega) ?_
  refine v_iinc (v := 3 * st + 1) rfl rfl (by decide) (by omega) ?_
  refine q_goto (t := 3) rfl (by decide) ?_
  refine q_iload rfl rfl ?_
  refine q_iload_n rfl rfl ?_
  refine q_iload_n rfl rfl ?_
  refine v_iadd (v := 3 * st + 3) rfl (by omega) ?_
  refine v_ic_ge_f (t := 34) rfl (by decide) (by omega) ?_
  refine q_iload rfl rfl ?_
  refine q_aload_n rfl rfl ?_
  refine v_al rfl (ck_p2 hA) (by omega) (by decide) ?_
  refine v_ic_ge_f (t := 34) rfl (by decide) (by omega) ?_
  refine q_aload_n rfl rfl ?_
  refine q_iload rfl rfl ?_
  refine q_aload_n rfl rfl ?_
  refine q_iload rfl rfl ?_
  have h_18 := ir_1_4 hI_13
  have hI_19 := iw_p2 (j := 3 * st) (v := y_15) hI_13 hA ⟨by omega, by omega⟩
  refine v_cv rfl rfl rfl rfl (by decide) ⟨⟨rfl, rfl⟩, by decide, rfl⟩ (Nat.le_of_ble_eq_true rfl) (Nat.le_of_ble_eq_true rfl) (fn_of (s_8 (a1 := 10) hI_19 (show (-1) ≤ 10 ∧ 10 ≤ 9999 from by omega) (fun c_20 y_23 hI_21 hF_22 hy_23 h_24 => ?_)))
  intro hG_25
  refine bk_inl ?_
  refine v_is rfl (ck_p2 hA) (by omega) (by decide) (by omega) ?_
  refine v_iinc (v := 3 * st + 2) rfl rfl (by decide) (by omega) ?_
  refine q_goto (t := 3) rfl (by decide) ?_
  refine q_iload rfl rfl ?_
  refine q_iload_n rfl rfl ?_
  refine q_iload_n rfl rfl ?_
  refine v_iadd (v := 3 * st + 3) rfl (by omega) ?_
  refine v_ic_ge_f (t := 34) rfl (by decide) (by omega) ?_
  refine q_iload rfl rfl ?_
  refine q_aload_n rfl rfl ?_
  refine v_al rfl (ck_p2 hA) (by omega) (by decide) ?_
  refine v_ic_ge_f (t := 34) rfl (by decide) (by omega) ?_
  refine q_aload_n rfl rfl ?_
  refine q_iload rfl rfl ?_
  refine q_aload_n rfl rfl ?_
  refine q_iload rfl rfl ?_
  have h_26 := ir_1_4 hI_21
  have hI_27 := iw_p2 (j := 3 * st + 1) (v := y_23) hI_21 hA ⟨by omega, by omega⟩
  refine v_cv rfl rfl rfl rfl (by decide) ⟨⟨rfl, rfl⟩, by decide, rfl⟩ (Nat.le_of_ble_eq_true rfl) (Nat.le_of_ble_eq_true rfl) (fn_of (s_8 (a1 := 10) hI_27 (show (-1) ≤ 10 ∧ 10 ≤ 9999 from by omega) (fun c_28 y_31 hI_29 hF_30 hy_31 h_32 => ?_)))
  intro hG_33
  refine bk_inl ?_
  refine v_is rfl (ck_p2 hA) (by omega) (by decide) (by omega) ?_
  refine v_iinc (v := 3 * st + 3) rfl rfl (by decide) (by omega) ?_
  refine q_goto (t := 3) rfl (by decide) ?_
  refine q_iload rfl rfl ?_
  refine q_iload_n rfl rfl ?_
  refine q_iload_n rfl rfl ?_
  refine v_iadd (v := 3 * st + 3) rfl (by omega) ?_
  refine v_ic_ge_t (t := 34) rfl (by decide) (by omega) ?_
  refine q_vret rfl rfl ?_
  refine bk_inl ?_
  refine q_aload_n rfl rfl ?_
  refine q_dup rfl rfl ?_
  have kn_34 : Hid (c_12 A 1 = st) := (hF_14 A 1 (fun q => q.elim (fun h => absurd h.1 (np0 hA rfl)) (fun q => q.elim (fun h => absurd h.1 (np0 hA rfl)) (fun h => absurd h.1 (np0 hA rfl))))).trans (hg_st)
  have kn_35 : Hid (c_20 A 1 = st) := (hF_22 A 1 (fun q => q.elim (fun h => absurd h.1 (np0 hA rfl)) (fun q => q.elim (fun h => absurd h.1 (np0 hA rfl)) (fun h => absurd h.1 (np0 hA rfl))))).trans ((up_c (p0p rfl)).trans (hid kn_34))
  have kn_36 : Hid (c_28 A 1 = st) := (hF_30 A 1 (fun q => q.elim (fun h => absurd h.1 (np0 hA rfl)) (fun q => q.elim (fun h => absurd h.1 (np0 hA rfl)) (fun h => absurd h.1 (np0 hA rfl))))).trans ((up_c (p0p rfl)).trans (hid kn_35))
  refine v_gi (z := 1) (v := st) rfl rfl (ck_p0 hA) (by omega) rfl rfl ((up_c (p0p rfl)).trans (hid kn_36)) ?_
  refine q_iconst rfl ?_
  refine v_iadd (v := st + 1) rfl (by omega) ?_
  refine v_pi (z := 1) rfl rfl (ck_p0 hA) (by omega) rfl rfl rfl (by decide) ?_
  refine q_goto (t := 126) rfl (by decide) ?_
  refine q_vret rfl rfl ?_
  have hI_37 := iw_p2 (j := 3 * st + 2) (v := y_31) hI_29 hA ⟨by omega, by omega⟩
  have hI_38 := iw_p0_1 (v := st + 1) hI_37 hA ⟨by omega, by omega⟩
  intro hE_39
  have hW : Wd P Q P P (up (up c_28 (A + 2) (3 * st + 2) y_31) A 1 (st + 1)) = Wd P Q P P m9 := (Prod.mk.inj (Prod.mk.inj hE_39).2).1
  have h_40 := ir_1_4 hI_29
  have h_41 := ir_1_4 hJ9
  have h_42 : m9 1 4 = c_28 1 4 := wd_fv (z := 4) 4 rfl hW rfl rfl rfl rfl (by decide) ((up_c (pn0 hA rfl)).trans (up_c (pn hA rfl rfl))) ⟨by omega, by omega⟩ ⟨by omega, by omega⟩
  have h_43 := ir_1_2 hI_29
  have h_44 := ir_1_2 hJ9
  have h_45 : m9 1 2 = c_28 1 2 := wd_fv (z := 2) 2 rfl hW rfl rfl rfl rfl (by decide) ((up_c (pn0 hA rfl)).trans (up_c (pn hA rfl rfl))) ⟨by omega, by omega⟩ ⟨by omega, by omega⟩
  have h_46 := ir_1_5 hI_29
  have h_47 := ir_1_5 hJ9
  have h_48 : m9 1 5 = c_28 1 5 := wd_fv (z := 5) 5 rfl hW rfl rfl rfl rfl (by decide) ((up_c (pn0 hA rfl)).trans (up_c (pn hA rfl rfl))) ⟨by omega, by omega⟩ ⟨by omega, by omega⟩
  have kn_49 : Hid (c_12 A 0 = jr) := (hF_14 A 0 (fun q => q.elim (fun h => absurd h.1 (np0 hA rfl)) (fun q => q.elim (fun h => absurd h.1 (np0 hA rfl)) (fun h => absurd h.1 (np0 hA rfl))))).trans (hg_jr)
  have kn_50 : Hid (c_20 A 0 = jr) := (hF_22 A 0 (fun q => q.elim (fun h => absurd h.1 (np0 hA rfl)) (fun q => q.elim (fun h => absurd h.1 (np0 hA rfl)) (fun h => absurd h.1 (np0 hA rfl))))).trans ((up_c (p0p rfl)).trans (hid kn_49))
  have kn_51 : Hid (c_28 A 0 = jr) := (hF_30 A 0 (fun q => q.elim (fun h => absurd h.1 (np0 hA rfl)) (fun q => q.elim (fun h => absurd h.1 (np0 hA rfl)) (fun h => absurd h.1 (np0 hA rfl))))).trans ((up_c (p0p rfl)).trans (hid kn_50))
  have h_52 := ir_p0_0 hJ9 hA
  have h_53 : m9 A 0 = jr := wd_fv (z := 0) 0 rfl hW (ck_p0 hA) (ck_p0 hA) rfl rfl (by omega) ((up_n (by decide)).trans ((up_c (p0p rfl)).trans (hid kn_51))) ⟨by omega, by omega⟩ ⟨by omega, by omega⟩
  have h_54 := ir_p0_1 hJ9 hA
  have h_55 : m9 A 1 = st + 1 := wd_fv (z := 1) 1 rfl hW (ck_p0 hA) (ck_p0 hA) rfl rfl (by omega) (up_e rfl) ⟨by omega, by omega⟩ ⟨by omega, by omega⟩
  have kn_56 : Hid (c_12 A 2 = si) := (hF_14 A 2 (fun q => q.elim (fun h => absurd h.1 (np0 hA rfl)) (fun q => q.elim (fun h => absurd h.1 (np0 hA rfl)) (fun h => absurd h.1 (np0 hA rfl))))).trans (hg_si)
  have kn_57 : Hid (c_20 A 2 = si) := (hF_22 A 2 (fun q => q.elim (fun h => absurd h.1 (np0 hA rfl)) (fun q => q.elim (fun h => absurd h.1 (np0 hA rfl)) (fun h => absurd h.1 (np0 hA rfl))))).trans ((up_c (p0p rfl)).trans (hid kn_56))
  have kn_58 : Hid (c_28 A 2 = si) := (hF_30 A 2 (fun q => q.elim (fun h => absurd h.1 (np0 hA rfl)) (fun q => q.elim (fun h => absurd h.1 (np0 hA rfl)) (fun h => absurd h.1 (np0 hA rfl))))).trans ((up_c (p0p rfl)).trans (hid kn_57))
  have h_59 := ir_p0_2 hJ9 hA
  have h_60 : m9 A 2 = si := wd_fv (z := 2) 2 rfl hW (ck_p0 hA) (ck_p0 hA) rfl rfl (by omega) ((up_n (by decide)).trans ((up_c (p0p rfl)).trans (hid kn_58))) ⟨by omega, by omega⟩ ⟨by omega, by omega⟩
  have kn_61 : Hid (c_12 A 3 = du) := (hF_14 A 3 (fun q => q.elim (fun h => absurd h.1 (np0 hA rfl)) (fun q => q.elim (fun h => absurd h.1 (np0 hA rfl)) (fun h => absurd h.1 (np0 hA rfl))))).trans (hg_du)
  have kn_62 : Hid (c_20 A 3 = du) := (hF_22 A 3 (fun q => q.elim (fun h => absurd h.1 (np0 hA rfl)) (fun q => q.elim (fun h => absurd h.1 (np0 hA rfl)) (fun h => absurd h.1 (np0 hA rfl))))).trans ((up_c (p0p rfl)).trans (hid kn_61))
  have kn_63 : Hid (c_28 A 3 = du) := (hF_30 A 3 (fun q => q.elim (fun h => absurd h.1 (np0 hA rfl)) (fun q => q.elim (fun h => absurd h.1 (np0 hA rfl)) (fun h => absurd h.1 (np0 hA rfl))))).trans ((up_c (p0p rfl)).trans (hid kn_62))
  have h_64 := ir_p0_3 hJ9 hA
  have h_65 : m9 A 3 = du := wd_fv (z := 3) 3 rfl hW (ck_p0 hA) (ck_p0 hA) rfl rfl (by omega) ((up_n (by decide)).trans ((up_c (p0p rfl)).trans (hid kn_63))) ⟨by omega, by omega⟩ ⟨by omega, by omega⟩
  refine q_iload_n rfl rfl ?_
  refine q_ldc_s rfl rfl rfl (by decide) ?_
  refine q_call rfl rfl rfl rfl (s_158_16 ?_)
  refine bk_inl ?_
  refine v_ic_ne_t (t := 56) rfl (by decide) (by decide) ?_
  refine q_iload_n rfl rfl ?_
  refine q_ldc_s rfl rfl rfl (by decide) ?_
  refine q_call rfl rfl rfl rfl (s_158_17 ?_)
  refine bk_inl ?_
  refine v_ic_ne_f (t := 111) rfl (by decide) (by decide) ?_
  refine q_iconst rfl ?_
  refine q_istore_n rfl (by decide) ?_
  refine q_iload_n rfl rfl ?_
  refine q_iconst rfl ?_
  refine v_ic_ge_f (t := 98) rfl (by decide) (by decide) ?_
  refine q_aload_n rfl rfl ?_
  refine v_gr (t := 45) rfl rfl rfl (by decide) rfl ?_
  refine q_iconst rfl ?_
  refine q_aload_n rfl rfl ?_
  refine v_gi (z := 17) (v := st) rfl rfl rfl (by decide) rfl rfl (hr_st) ?_
  refine v_imul (v := 3 * st) rfl (by omega) ?_
  refine q_iload_n rfl rfl ?_
  refine v_iadd (v := 3 * st) rfl (by omega) ?_
  refine q_aload_n rfl rfl ?_
  refine q_iconst rfl ?_
  refine v_bip rfl (by decide) ?_
  have h_66 := ir_1_2 hJ
  refine v_cv rfl rfl rfl rfl (by decide) ⟨⟨rfl, rfl⟩, by decide, rfl⟩ (Nat.le_of_ble_eq_true rfl) (Nat.le_of_ble_eq_true rfl) (L_8 (m := m) (a2 := 10) (yg := y_15) (e1 := e1) (a9 := m 1 2) (F := F) (H := H) hI hJ hI_13 (show (-1) ≤ 10 ∧ 10 ≤ 9999 from by omega) ⟨by omega, by omega⟩ ((hg_e1)) ((hr_e1)) (rfl) (fun j => hF j) (fun j => hH j) hU hRt hG_17 (fun c_67 y_70 hI_68 hF_69 hy_70 hR_71 h_72 h_73 => ?_))
  refine bk_inl ?_
  have hs_74 := h_72.symm
  subst hs_74
  have h_75 := ir_1_2 hI_13
  refine v_is rfl rfl (by decide) (by decide) (by omega) ?_
  refine v_iinc (v := 1) rfl rfl (by decide) (by decide) ?_
  refine q_goto (t := 67) rfl (by decide) ?_
  refine q_iload_n rfl rfl ?_
  refine q_iconst rfl ?_
  refine v_ic_ge_f (t := 98) rfl (by decide) (by decide) ?_
  refine q_aload_n rfl rfl ?_
  refine v_gr (t := 45) rfl rfl rfl (by decide) rfl ?_
  refine q_iconst rfl ?_
  refine q_aload_n rfl rfl ?_
  have kn_76 : Hid (c_67 41 17 = st) := (hF_69 41 17 (fun q => q.elim (fun h => absurd h.2 (ni rfl)) (fun q => q.elim (fun h => absurd h.2 (ni rfl)) (fun h => absurd h.2 (ni rfl))))).trans (hr_st)
  refine v_gi (z := 17) (v := st) rfl rfl rfl (by decide) rfl rfl ((up_c (nn rfl)).trans (hid kn_76)) ?_
  refine v_imul (v := 3 * st) rfl (by omega) ?_
  refine q_iload_n rfl rfl ?_
  refine v_iadd (v := 3 * st + 1) rfl (by omega) ?_
  refine q_aload_n rfl rfl ?_
  refine q_iconst rfl ?_
  refine v_bip rfl (by decide) ?_
  have hI_77 := iw_45 (j := 3 * st) (v := y_15) hI_68 ⟨by omega, by omega⟩
  have kn_78 : Hid (c_12 1 1 = e1) := (hF_14 1 1 (fun q => q.elim (fun h => absurd h.2 (ni rfl)) (fun q => q.elim (fun h => absurd h.2 (ni rfl)) (fun h => absurd h.2 (ni rfl))))).trans (hg_e1)
  have kn_79 : Hid (c_67 41 3 = e1) := (hF_69 41 3 (fun q => q.elim (fun h => absurd h.2 (ni rfl)) (fun q => q.elim (fun h => absurd h.2 (ni rfl)) (fun h => absurd h.2 (ni rfl))))).trans (hr_e1)
  refine v_cv rfl rfl rfl rfl (by decide) ⟨⟨rfl, rfl⟩, by decide, rfl⟩ (Nat.le_of_ble_eq_true rfl) (Nat.le_of_ble_eq_true rfl) (L_8 (m := up c_12 (A + 2) (3 * st) y_15) (a2 := 10) (yg := y_23) (e1 := e1) (a9 := c_12 1 2) (F := F) (H := H) hI_77 hI_19 hI_21 (show (-1) ≤ 10 ∧ 10 ≤ 9999 from by omega) ⟨by omega, by omega⟩ (((up_c (pn hA rfl rfl)).trans (hid kn_78))) (((up_c (nn rfl)).trans (hid kn_79))) ((up_c (pn hA rfl rfl))) (fun j => ((up_c (pn hA rfl rfl)).trans (hF_14 2 j (fun q => q.elim (fun h => absurd h.1 (nn rfl)) (fun q => q.elim (fun h => absurd h.1 (nn rfl)) (fun h => absurd h.1 (nn rfl)))))).trans (hF j)) (fun j => ((up_c (nn rfl)).trans (hF_69 43 j (fun q => q.elim (fun h => absurd h.1 (nn rfl)) (fun q => q.elim (fun h => absurd h.1 (nn rfl)) (fun h => absurd h.1 (nn rfl)))))).trans (hH j)) hU (rt_fr hR_71 (up_c (pn hA rfl rfl)) (up_c (pn hA rfl rfl)) (up_c (pn hA rfl rfl)) (up_c (nn rfl)) (up_c (nn rfl)) (up_c (nn rfl))) hG_25 (fun c_80 y_83 hI_81 hF_82 hy_83 hR_84 h_85 h_86 => ?_))
  refine bk_inl ?_
  have hs_87 := h_85.symm
  subst hs_87
  have h_88 := ir_1_2 hI_21
  refine v_is rfl rfl (by decide) (by decide) (by omega) ?_
  refine v_iinc (v := 2) rfl rfl (by decide) (by decide) ?_
  refine q_goto (t := 67) rfl (by decide) ?_
  refine q_iload_n rfl rfl ?_
  refine q_iconst rfl ?_
  refine v_ic_ge_f (t := 98) rfl (by decide) (by decide) ?_
  refine q_aload_n rfl rfl ?_
  refine v_gr (t := 45) rfl rfl rfl (by decide) rfl ?_
  refine q_iconst rfl ?_
  refine q_aload_n rfl rfl ?_
  have kn_89 : Hid (c_80 41 17 = st) := (hF_82 41 17 (fun q => q.elim (fun h => absurd h.2 (ni rfl)) (fun q => q.elim (fun h => absurd h.2 (ni rfl)) (fun h => absurd h.2 (ni rfl))))).trans ((up_c (nn rfl)).trans (hid kn_76))
  refine v_gi (z := 17) (v := st) rfl rfl rfl (by decide) rfl rfl ((up_c (nn rfl)).trans (hid kn_89)) ?_
  refine v_imul (v := 3 * st) rfl (by omega) ?_
  refine q_iload_n rfl rfl ?_
  refine v_iadd (v := 3 * st + 2) rfl (by omega) ?_
  refine q_aload_n rfl rfl ?_
  refine q_iconst rfl ?_
  refine v_bip rfl (by decide) ?_
  have hI_90 := iw_45 (j := 3 * st + 1) (v := y_23) hI_81 ⟨by omega, by omega⟩
  have kn_91 : Hid (c_20 1 1 = e1) := (hF_22 1 1 (fun q => q.elim (fun h => absurd h.2 (ni rfl)) (fun q => q.elim (fun h => absurd h.2 (ni rfl)) (fun h => absurd h.2 (ni rfl))))).trans ((up_c (pn hA rfl rfl)).trans (hid kn_78))
  have kn_92 : Hid (c_80 41 3 = e1) := (hF_82 41 3 (fun q => q.elim (fun h => absurd h.2 (ni rfl)) (fun q => q.elim (fun h => absurd h.2 (ni rfl)) (fun h => absurd h.2 (ni rfl))))).trans ((up_c (nn rfl)).trans (hid kn_79))
  refine v_cv rfl rfl rfl rfl (by decide) ⟨⟨rfl, rfl⟩, by decide, rfl⟩ (Nat.le_of_ble_eq_true rfl) (Nat.le_of_ble_eq_true rfl) (L_8 (m := up c_20 (A + 2) (3 * st + 1) y_23) (a2 := 10) (yg := y_31) (e1 := e1) (a9 := c_20 1 2) (F := F) (H := H) hI_90 hI_27 hI_29 (show (-1) ≤ 10 ∧ 10 ≤ 9999 from by omega) ⟨by omega, by omega⟩ (((up_c (pn hA rfl rfl)).trans (hid kn_91))) (((up_c (nn rfl)).trans (hid kn_92))) ((up_c (pn hA rfl rfl))) (fun j => ((up_c (pn hA rfl rfl)).trans ((hF_22 2 j (fun q => q.elim (fun h => absurd h.1 (nn rfl)) (fun q => q.elim (fun h => absurd h.1 (nn rfl)) (fun h => absurd h.1 (nn rfl))))).trans ((up_c (pn hA rfl rfl)).trans (hF_14 2 j (fun q => q.elim (fun h => absurd h.1 (nn rfl)) (fun q => q.elim (fun h => absurd h.1 (nn rfl)) (fun h => absurd h.1 (nn rfl)))))))).trans (hF j)) (fun j => ((up_c (nn rfl)).trans ((hF_82 43 j (fun q => q.elim (fun h => absurd h.1 (nn rfl)) (fun q => q.elim (fun h => absurd h.1 (nn rfl)) (fun h => absurd h.1 (nn rfl))))).trans ((up_c (nn rfl)).trans (hF_69 43 j (fun q => q.elim (fun h => absurd h.1 (nn rfl)) (fun q => q.elim (fun h => absurd h.1 (nn rfl)) (fun h => absurd h.1 (nn rfl)))))))).trans (hH j)) hU (rt_fr hR_84 (up_c (pn hA rfl rfl)) (up_c (pn hA rfl rfl)) (up_c (pn hA rfl rfl)) (up_c (nn rfl)) (up_c (nn rfl)) (up_c (nn rfl))) hG_33 (fun c_93 y_96 hI_94 hF_95 hy_96 hR_97 h_98 h_99 => ?_))
  refine bk_inl ?_
  have hs_100 := h_98.symm
  subst hs_100
  refine v_is rfl rfl (by decide) (by decide) (by omega) ?_
  refine v_iinc (v := 3) rfl rfl (by decide) (by decide) ?_
  refine q_goto (t := 67) rfl (by decide) ?_
  refine q_iload_n rfl rfl ?_
  refine q_iconst rfl ?_
  refine v_ic_ge_t (t := 98) rfl (by decide) (by decide) ?_
  refine q_aload_n rfl rfl ?_
  refine q_dup rfl rfl ?_
  have kn_101 : Hid (c_93 41 17 = st) := (hF_95 41 17 (fun q => q.elim (fun h => absurd h.2 (ni rfl)) (fun q => q.elim (fun h => absurd h.2 (ni rfl)) (fun h => absurd h.2 (ni rfl))))).trans ((up_c (nn rfl)).trans (hid kn_89))
  refine v_gi (z := 17) (v := st) rfl rfl rfl (by decide) rfl rfl ((up_c (nn rfl)).trans (hid kn_101)) ?_
  refine q_iconst rfl ?_
  refine v_iadd (v := st + 1) rfl (by omega) ?_
  refine v_pi (z := 17) rfl rfl rfl (by decide) rfl rfl rfl (by decide) ?_
  refine q_goto (t := 159) rfl (by decide) ?_
  refine q_vret rfl rfl ?_
  have hI_102 := iw_45 (j := 3 * st + 2) (v := y_31) hI_94 ⟨by omega, by omega⟩
  have hI_103 := iw_41_17 (v := st + 1) hI_102 ⟨by omega, by omega⟩
  have h_104 := ir_41_5 hI_94
  have h_105 := ir_41_4 hI_94
  have h_106 := ir_41_6 hI_94
  have h_107 := rt_or hR_97
  have h_108 : (up (up c_93 45 (3 * st + 2) y_31) 41 17 (st + 1)) 41 5 = c_93 41 5 := ((up_n (by decide)).trans (up_c (nn rfl)))
  have h_109 : (up (up c_93 45 (3 * st + 2) y_31) 41 17 (st + 1)) 41 4 = c_93 41 4 := ((up_n (by decide)).trans (up_c (nn rfl)))
  have h_110 : (up (up c_93 45 (3 * st + 2) y_31) 41 17 (st + 1)) 41 6 = c_93 41 6 := ((up_n (by decide)).trans (up_c (nn rfl)))
  have kn_111 : Hid (c_67 41 16 = jr) := (hF_69 41 16 (fun q => q.elim (fun h => absurd h.2 (ni rfl)) (fun q => q.elim (fun h => absurd h.2 (ni rfl)) (fun h => absurd h.2 (ni rfl))))).trans (hr_jr)
  have kn_112 : Hid (c_80 41 16 = jr) := (hF_82 41 16 (fun q => q.elim (fun h => absurd h.2 (ni rfl)) (fun q => q.elim (fun h => absurd h.2 (ni rfl)) (fun h => absurd h.2 (ni rfl))))).trans ((up_c (nn rfl)).trans (hid kn_111))
  have kn_113 : Hid (c_93 41 16 = jr) := (hF_95 41 16 (fun q => q.elim (fun h => absurd h.2 (ni rfl)) (fun q => q.elim (fun h => absurd h.2 (ni rfl)) (fun h => absurd h.2 (ni rfl))))).trans ((up_c (nn rfl)).trans (hid kn_112))
  have h_114 : (up (up c_93 45 (3 * st + 2) y_31) 41 17 (st + 1)) 41 16 = jr := ((up_n (by decide)).trans ((up_c (nn rfl)).trans (hid kn_113)))
  have h_115 : (up (up c_93 45 (3 * st + 2) y_31) 41 17 (st + 1)) 41 17 = st + 1 := (up_e rfl)
  have kn_116 : Hid (c_67 41 18 = si) := (hF_69 41 18 (fun q => q.elim (fun h => absurd h.2 (ni rfl)) (fun q => q.elim (fun h => absurd h.2 (ni rfl)) (fun h => absurd h.2 (ni rfl))))).trans (hr_si)
  have kn_117 : Hid (c_80 41 18 = si) := (hF_82 41 18 (fun q => q.elim (fun h => absurd h.2 (ni rfl)) (fun q => q.elim (fun h => absurd h.2 (ni rfl)) (fun h => absurd h.2 (ni rfl))))).trans ((up_c (nn rfl)).trans (hid kn_116))
  have kn_118 : Hid (c_93 41 18 = si) := (hF_95 41 18 (fun q => q.elim (fun h => absurd h.2 (ni rfl)) (fun q => q.elim (fun h => absurd h.2 (ni rfl)) (fun h => absurd h.2 (ni rfl))))).trans ((up_c (nn rfl)).trans (hid kn_117))
  have h_119 : (up (up c_93 45 (3 * st + 2) y_31) 41 17 (st + 1)) 41 18 = si := ((up_n (by decide)).trans ((up_c (nn rfl)).trans (hid kn_118)))
  have kn_120 : Hid (c_67 41 19 = du) := (hF_69 41 19 (fun q => q.elim (fun h => absurd h.2 (ni rfl)) (fun q => q.elim (fun h => absurd h.2 (ni rfl)) (fun h => absurd h.2 (ni rfl))))).trans (hr_du)
  have kn_121 : Hid (c_80 41 19 = du) := (hF_82 41 19 (fun q => q.elim (fun h => absurd h.2 (ni rfl)) (fun q => q.elim (fun h => absurd h.2 (ni rfl)) (fun h => absurd h.2 (ni rfl))))).trans ((up_c (nn rfl)).trans (hid kn_120))
  have kn_122 : Hid (c_93 41 19 = du) := (hF_95 41 19 (fun q => q.elim (fun h => absurd h.2 (ni rfl)) (fun q => q.elim (fun h => absurd h.2 (ni rfl)) (fun h => absurd h.2 (ni rfl))))).trans ((up_c (nn rfl)).trans (hid kn_121))
  have h_123 : (up (up c_93 45 (3 * st + 2) y_31) 41 17 (st + 1)) 41 19 = du := ((up_n (by decide)).trans ((up_c (nn rfl)).trans (hid kn_122)))
  have h_124 : (up (up c_93 45 (3 * st + 2) y_31) 41 17 (st + 1)) 41 16 = jr := ((up_n (by decide)).trans ((up_c (nn rfl)).trans (hid kn_113)))
  have hA_125 : Ae (4 * jr) ((up (up c_28 (A + 2) (3 * st + 2) y_31) A 1 (st + 1)) (A + 1)) ((up (up c_93 45 (3 * st + 2) y_31) 41 17 (st + 1)) 44) := ae_fr hr0 (fun j => (up_c (pp0 rfl)).trans ((up_c (pp rfl)).trans ((hF_30 (A + 1) j (fun q => q.elim (fun h => absurd h.1 (np hA rfl rfl)) (fun q => q.elim (fun h => absurd h.1 (np hA rfl rfl)) (fun h => absurd h.1 (np hA rfl rfl))))).trans ((up_c (pp rfl)).trans ((hF_22 (A + 1) j (fun q => q.elim (fun h => absurd h.1 (np hA rfl rfl)) (fun q => q.elim (fun h => absurd h.1 (np hA rfl rfl)) (fun h => absurd h.1 (np hA rfl rfl))))).trans ((up_c (pp rfl)).trans (hF_14 (A + 1) j (fun q => q.elim (fun h => absurd h.1 (np hA rfl rfl)) (fun q => q.elim (fun h => absurd h.1 (np hA rfl rfl)) (fun h => absurd h.1 (np hA rfl rfl))))))))))) (fun j => (up_c (nn rfl)).trans ((up_c (nn rfl)).trans ((hF_95 44 j (fun q => q.elim (fun h => absurd h.1 (nn rfl)) (fun q => q.elim (fun h => absurd h.1 (nn rfl)) (fun h => absurd h.1 (nn rfl))))).trans ((up_c (nn rfl)).trans ((hF_82 44 j (fun q => q.elim (fun h => absurd h.1 (nn rfl)) (fun q => q.elim (fun h => absurd h.1 (nn rfl)) (fun h => absurd h.1 (nn rfl))))).trans ((up_c (nn rfl)).trans (hF_69 44 j (fun q => q.elim (fun h => absurd h.1 (nn rfl)) (fun q => q.elim (fun h => absurd h.1 (nn rfl)) (fun h => absurd h.1 (nn rfl)))))))))))
  have hA_126 : Ae (4 * jr) (m9 (A + 1)) ((up (up c_93 45 (3 * st + 2) y_31) 41 17 (st + 1)) 44) := ae_l hA_125 (fun j h1 h2 => wd_av hW (ck_p1 hA) (ck_p1 hA) (by decide) (by omega) ⟨h1, by omega⟩ rfl (wide (ir_p1 hI_38 hA j) (by decide) (by decide)) (wide (ir_p1 hJ9 hA j) (by decide) (by decide)))
  have h_127 : (up (up c_93 45 (3 * st + 2) y_31) 41 17 (st + 1)) 41 17 = st + 1 := (up_e rfl)
  have hA_128 : Ae (3 * st + 1) ((up c_12 (A + 2) (3 * st) y_15) (A + 2)) ((up c_67 45 (3 * st) y_15) 45) := ae_w (i := 3 * st) (v := y_15) hr1 (by omega) (up_e rfl) (up_e rfl) (fun j hj => (up_n hj).trans (hF_14 (A + 2) j (fun q => q.elim (fun h => absurd h.1 (np hA rfl rfl)) (fun q => q.elim (fun h => absurd h.1 (np hA rfl rfl)) (fun h => absurd h.1 (np hA rfl rfl)))))) (fun j hj => (up_n hj).trans (hF_69 45 j (fun q => q.elim (fun h => absurd h.1 (nn rfl)) (fun q => q.elim (fun h => absurd h.1 (nn rfl)) (fun h => absurd h.1 (nn rfl))))))
  have hA_129 : Ae (3 * st + 2) ((up c_20 (A + 2) (3 * st + 1) y_23) (A + 2)) ((up c_80 45 (3 * st + 1) y_23) 45) := ae_w (i := 3 * st + 1) (v := y_23) hA_128 (by omega) (up_e rfl) (up_e rfl) (fun j hj => (up_n hj).trans (hF_22 (A + 2) j (fun q => q.elim (fun h => absurd h.1 (np hA rfl rfl)) (fun q => q.elim (fun h => absurd h.1 (np hA rfl rfl)) (fun h => absurd h.1 (np hA rfl rfl)))))) (fun j hj => (up_n hj).trans (hF_82 45 j (fun q => q.elim (fun h => absurd h.1 (nn rfl)) (fun q => q.elim (fun h => absurd h.1 (nn rfl)) (fun h => absurd h.1 (nn rfl))))))
  have hA_130 : Ae (3 * st + 3) ((up (up c_28 (A + 2) (3 * st + 2) y_31) A 1 (st + 1)) (A + 2)) ((up (up c_93 45 (3 * st + 2) y_31) 41 17 (st + 1)) 45) := ae_w (i := 3 * st + 2) (v := y_31) hA_129 (by omega) ((up_c (pp0 rfl)).trans (up_e rfl)) ((up_c (nn rfl)).trans (up_e rfl)) (fun j hj => (up_c (pp0 rfl)).trans ((up_n hj).trans (hF_30 (A + 2) j (fun q => q.elim (fun h => absurd h.1 (np hA rfl rfl)) (fun q => q.elim (fun h => absurd h.1 (np hA rfl rfl)) (fun h => absurd h.1 (np hA rfl rfl))))))) (fun j hj => (up_c (nn rfl)).trans ((up_n hj).trans (hF_95 45 j (fun q => q.elim (fun h => absurd h.1 (nn rfl)) (fun q => q.elim (fun h => absurd h.1 (nn rfl)) (fun h => absurd h.1 (nn rfl)))))))
  have hA_131 : Ae (3 * st + 3) (m9 (A + 2)) ((up (up c_93 45 (3 * st + 2) y_31) 41 17 (st + 1)) 45) := ae_l hA_130 (fun j h1 h2 => wd_av hW (ck_p2 hA) (ck_p2 hA) (by decide) (by omega) ⟨h1, by omega⟩ rfl (wide (ir_p2 hI_38 hA j) (by decide) (by decide)) (wide (ir_p2 hJ9 hA j) (by decide) (by decide)))
  have h_132 : (up (up c_93 45 (3 * st + 2) y_31) 41 17 (st + 1)) 41 18 = si := ((up_n (by decide)).trans ((up_c (nn rfl)).trans (hid kn_118)))
  have hA_133 : Ae si ((up (up c_28 (A + 2) (3 * st + 2) y_31) A 1 (st + 1)) (A + 3)) ((up (up c_93 45 (3 * st + 2) y_31) 41 17 (st + 1)) 46) := ae_fr hr2 (fun j => (up_c (pp0 rfl)).trans ((up_c (pp rfl)).trans ((hF_30 (A + 3) j (fun q => q.elim (fun h => absurd h.1 (np hA rfl rfl)) (fun q => q.elim (fun h => absurd h.1 (np hA rfl rfl)) (fun h => absurd h.1 (np hA rfl rfl))))).trans ((up_c (pp rfl)).trans ((hF_22 (A + 3) j (fun q => q.elim (fun h => absurd h.1 (np hA rfl rfl)) (fun q => q.elim (fun h => absurd h.1 (np hA rfl rfl)) (fun h => absurd h.1 (np hA rfl rfl))))).trans ((up_c (pp rfl)).trans (hF_14 (A + 3) j (fun q => q.elim (fun h => absurd h.1 (np hA rfl rfl)) (fun q => q.elim (fun h => absurd h.1 (np hA rfl rfl)) (fun h => absurd h.1 (np hA rfl rfl))))))))))) (fun j => (up_c (nn rfl)).trans ((up_c (nn rfl)).trans ((hF_95 46 j (fun q => q.elim (fun h => absurd h.1 (nn rfl)) (fun q => q.elim (fun h => absurd h.1 (nn rfl)) (fun h => absurd h.1 (nn rfl))))).trans ((up_c (nn rfl)).trans ((hF_82 46 j (fun q => q.elim (fun h => absurd h.1 (nn rfl)) (fun q => q.elim (fun h => absurd h.1 (nn rfl)) (fun h => absurd h.1 (nn rfl))))).trans ((up_c (nn rfl)).trans (hF_69 46 j (fun q => q.elim (fun h => absurd h.1 (nn rfl)) (fun q => q.elim (fun h => absurd h.1 (nn rfl)) (fun h => absurd h.1 (nn rfl)))))))))))
  have hA_134 : Ae si (m9 (A + 3)) ((up (up c_93 45 (3 * st + 2) y_31) 41 17 (st + 1)) 46) := ae_l hA_133 (fun j h1 h2 => wd_av hW (ck_p3 hA) (ck_p3 hA) (by decide) (by omega) ⟨h1, by omega⟩ rfl (wide (ir_p3 hI_38 hA j) (by decide) (by decide)) (wide (ir_p3 hJ9 hA j) (by decide) (by decide)))
  exact K (up (up c_93 45 (3 * st + 2) y_31) 41 17 (st + 1))  hI_103 (fun a j hm => (up_b (Decidable.or_iff_not_imp_left.mpr (fun h1 h2 => hm (Or.inr (Or.inr (Or.inr (Or.inr (Or.inl ⟨Decidable.not_not.mp h1, h2⟩)))))))).trans ((up_b (Decidable.or_iff_not_imp_left.mpr (fun h1 h2 => hm (Or.inr (Or.inr (Or.inr (Or.inr (Or.inr (Or.inr (Or.inr (Or.inr (Or.inl (Decidable.not_not.mp h1))))))))))))).trans ((hF_95 a j (fun q => q.elim (fun h => hm (Or.inl h)) (fun q => q.elim (fun h => hm (Or.inr (Or.inl h))) (fun h => hm (Or.inr (Or.inr (Or.inl h))))))).trans ((up_b (Decidable.or_iff_not_imp_left.mpr (fun h1 h2 => hm (Or.inr (Or.inr (Or.inr (Or.inr (Or.inr (Or.inr (Or.inr (Or.inr (Or.inl (Decidable.not_not.mp h1))))))))))))).trans ((hF_82 a j (fun q => q.elim (fun h => hm (Or.inl h)) (fun q => q.elim (fun h => hm (Or.inr (Or.inl h))) (fun h => hm (Or.inr (Or.inr (Or.inl h))))))).trans ((up_b (Decidable.or_iff_not_imp_left.mpr (fun h1 h2 => hm (Or.inr (Or.inr (Or.inr (Or.inr (Or.inr (Or.inr (Or.inr (Or.inr (Or.inl (Decidable.not_not.mp h1))))))))))))).trans (hF_69 a j (fun q => q.elim (fun h => hm (Or.inl h)) (fun q => q.elim (fun h => hm (Or.inr (Or.inl h))) (fun h => hm (Or.inr (Or.inr (Or.inl h))))))))))))) (by unfold Rt; omega) (by omega) (by omega) (by omega) (by omega) (ae_le hA_126 (by omega)) (ae_le hA_131 (by omega)) (ae_le hA_134 (by omega))

set_option maxRecDepth 100000 in
set_option maxHeartbeats 4000000 in
theorem L_33a_2 {sc : List Int32} {e eg : Int} {d dh u ug P Q P2 Q2 A : Nat} {c m m9 : ME} {e1 jr st si du : Int} {F H : Int → Int} {Z : AR → Prop} (hI : Iv u e P2 Q2 c) (hJ : Iv ug eg P Q m) (hJ9 : Iv ug eg P Q m9) (hA : A = 13 ∨ A = 25) (hq0 : (si ≤ 3)) (hg_e1 : m 1 1 = e1) (hr_e1 : c 41 3 = e1) (hg_jr : m A 0 = jr) (hr_jr : c 41 16 = jr) (hg_st : m A 1 = st) (hr_st : c 41 17 = st) (hg_si : m A 2 = si) (hr_si : c 41 18 = si) (hg_du : m A 3 = du) (hr_du : c 41 19 = du) (hF : ∀ j : Int, m 2 j = F j) (hH : ∀ j : Int, c 43 j = H j) (hU : Ub F H) (hRt : Rt m c) (hr0 : Ae (4 * jr) (m (A + 1)) (c 44)) (hr1 : Ae (3 * st) (m (A + 2)) (c 45)) (hr2 : Ae si (m (A + 3)) (c 46)) (hG : Wp sc (dh + 18) 33 0 [(0, .ref A), (1, .ref 1), (2, vi 2)] [] (Wd P Q P P m) 0 0 (fun q => q = (.inl (none), Wd P Q P P m9, 0, 0))) (K : ∀ (c2 : ME), Iv u e P2 Q2 c2 → (∀ (a : Nat) (j : Int), ¬ ((a = 41 ∧ j = 4) ∨ (a = 41 ∧ j = 5) ∨ (a = 41 ∧ j = 6) ∨ (a = 41 ∧ j = 16) ∨ (a = 41 ∧ j = 17) ∨ (a = 41 ∧ j = 18) ∨ (a = 41 ∧ j = 19) ∨ a = 44 ∨ a = 45 ∨ a = 46) → c2 a j = c a j) → (Rt m9 c2) → ((m9 A 0 = c2 41 16)) → ((m9 A 1 = c2 41 17)) → ((m9 A 2 = c2 41 18)) → ((m9 A 3 = c2 41 19)) → (Ae (4 * c2 41 16) (m9 (A + 1)) (c2 44)) → (Ae (3 * c2 41 17) (m9 (A + 2)) (c2 45)) → (Ae (c2 41 18) (m9 (A + 3)) (c2 46)) → Z (.inl (none), Wd P2 Q2 P2 P2 c2, 0, 0)) : Wp sc (d + 18) 168 0 [(0, .ref 41), (1, vi 20223685)] [] (Wd P2 Q2 P2 P2 c) 0 0 Z := by
  have hP := iv_P hJ
  have hQ := iv_Q hJ
  have h_1 := ir_1_1 hJ
  have h_2 := ir_41_3 hI
  have h_3 := ir_p0_0 hJ hA
  have h_4 := ir_41_16 hI
  have h_5 := ir_p0_1 hJ hA
  have h_6 := ir_41_17 hI
  have h_7 := ir_p0_2 hJ hA
  have h_8 := ir_41_18 hI
  have h_9 := ir_p0_3 hJ hA
  have h_10 := ir_41_19 hI
  refine gh hG ?_
  refine q_iload_n rfl rfl ?_
  refine v_tsw_i (t := 89) 2 rfl (by omega) (by decide) rfl (by decide) ?_
  refine q_aload_n rfl rfl ?_
  refine q_aload_n rfl rfl ?_
  refine v_gr (t := (A + 3)) rfl rfl (ck_p0 hA) (by omega) rfl ?_
  refine q_aload_n rfl rfl ?_
  refine v_gi (z := 2) (v := si) rfl rfl (ck_p0 hA) (by omega) rfl rfl (hg_si) ?_
  refine q_iconst rfl ?_
  refine q_iconst rfl ?_
  refine q_call rfl rfl rfl rfl ?_
  refine q_iload_n rfl rfl ?_
  refine q_istore rfl (by decide) ?_
  refine q_iload rfl rfl ?_
  refine q_iload_n rfl rfl ?_
  refine q_iload_n rfl rfl ?_
  refine v_iadd (v := si + 1) rfl (by omega) ?_
  refine v_ic_ge_f (t := 34) rfl (by decide) (by omega) ?_
  refine q_iload rfl rfl ?_
  refine q_aload_n rfl rfl ?_
  refine v_al rfl (ck_p3 hA) (by omega) (by decide) ?_
  refine v_ic_ge_f (t := 34) rfl (by decide) (by omega) ?_
  refine q_aload_n rfl rfl ?_
  refine q_iload rfl rfl ?_
  refine q_aload_n rfl rfl ?_
  refine q_iload rfl rfl ?_
  have h_11 := ir_1_4 hJ
  refine v_cv rfl rfl rfl rfl (by decide) ⟨⟨rfl, rfl⟩, by decide, rfl⟩ (Nat.le_of_ble_eq_true rfl) (Nat.le_of_ble_eq_true rfl) (fn_of (s_8 (a1 := 2) hJ (show (-1) ≤ 2 ∧ 2 ≤ 9999 from by omega) (fun c_12 y_15 hI_13 hF_14 hy_15 h_16 => ?_)))
  intro hG_17
  refine bk_inl ?_
  refine v_is rfl (ck_p3 hA) (by omega) (by decide) (by omega) ?_
  refine v_iinc (v := si + 1) rfl rfl (by decide) (by omega) ?_
  refine q_goto (t := 3) rfl (by decide) ?_
  refine q_iload rfl rfl ?_
  refine q_iload_n rfl rfl ?_
  refine q_iload_n rfl rfl ?_
  refine v_iadd (v := si + 1) rfl (by omega) ?_
  refine v_ic_ge_t (t := 34) rfl (by decide) (by omega) ?_
  refine q_vret rfl rfl ?_
  refine bk_inl ?_
  refine q_aload_n rfl rfl ?_
  refine q_dup rfl rfl ?_
  have kn_18 : Hid (c_12 A 2 = si) := (hF_14 A 2 (fun q => q.elim (fun h => absurd h.1 (np0 hA rfl)) (fun q => q.elim (fun h => absurd h.1 (np0 hA rfl)) (fun h => absurd h.1 (np0 hA rfl))))).trans (hg_si)
  refine v_gi (z := 2) (v := si) rfl rfl (ck_p0 hA) (by omega) rfl rfl ((up_c (p0p rfl)).trans (hid kn_18)) ?_
  refine q_iconst rfl ?_
  refine v_iadd (v := si + 1) rfl (by omega) ?_
  refine v_pi (z := 2) rfl rfl (ck_p0 hA) (by omega) rfl rfl rfl (by decide) ?_
  refine q_goto (t := 126) rfl (by decide) ?_
  refine q_vret rfl rfl ?_
  have hI_19 := iw_p3 (j := si) (v := y_15) hI_13 hA ⟨by omega, by omega⟩
  have hI_20 := iw_p0_2 (v := si + 1) hI_19 hA ⟨by omega, by omega⟩
  intro hE_21
  have hW : Wd P Q P P (up (up c_12 (A + 3) si y_15) A 2 (si + 1)) = Wd P Q P P m9 := (Prod.mk.inj (Prod.mk.inj hE_21).2).1
  have h_22 := ir_1_4 hI_13
  have h_23 := ir_1_4 hJ9
  have h_24 : m9 1 4 = c_12 1 4 := wd_fv (z := 4) 4 rfl hW rfl rfl rfl rfl (by decide) ((up_c (pn0 hA rfl)).trans (up_c (pn hA rfl rfl))) ⟨by omega, by omega⟩ ⟨by omega, by omega⟩
  have h_25 := ir_1_2 hI_13
  have h_26 := ir_1_2 hJ9
  have h_27 : m9 1 2 = c_12 1 2 := wd_fv (z := 2) 2 rfl hW rfl rfl rfl rfl (by decide) ((up_c (pn0 hA rfl)).trans (up_c (pn hA rfl rfl))) ⟨by omega, by omega⟩ ⟨by omega, by omega⟩
  have h_28 := ir_1_5 hI_13
  have h_29 := ir_1_5 hJ9
  have h_30 : m9 1 5 = c_12 1 5 := wd_fv (z := 5) 5 rfl hW rfl rfl rfl rfl (by decide) ((up_c (pn0 hA rfl)).trans (up_c (pn hA rfl rfl))) ⟨by omega, by omega⟩ ⟨by omega, by omega⟩
  have kn_31 : Hid (c_12 A 0 = jr) := (hF_14 A 0 (fun q => q.elim (fun h => absurd h.1 (np0 hA rfl)) (fun q => q.elim (fun h => absurd h.1 (np0 hA rfl)) (fun h => absurd h.1 (np0 hA rfl))))).trans (hg_jr)
  have h_32 := ir_p0_0 hJ9 hA
  have h_33 : m9 A 0 = jr := wd_fv (z := 0) 0 rfl hW (ck_p0 hA) (ck_p0 hA) rfl rfl (by omega) ((up_n (by decide)).trans ((up_c (p0p rfl)).trans (hid kn_31))) ⟨by omega, by omega⟩ ⟨by omega, by omega⟩
  have kn_34 : Hid (c_12 A 1 = st) := (hF_14 A 1 (fun q => q.elim (fun h => absurd h.1 (np0 hA rfl)) (fun q => q.elim (fun h => absurd h.1 (np0 hA rfl)) (fun h => absurd h.1 (np0 hA rfl))))).trans (hg_st)
  have h_35 := ir_p0_1 hJ9 hA
  have h_36 : m9 A 1 = st := wd_fv (z := 1) 1 rfl hW (ck_p0 hA) (ck_p0 hA) rfl rfl (by omega) ((up_n (by decide)).trans ((up_c (p0p rfl)).trans (hid kn_34))) ⟨by omega, by omega⟩ ⟨by omega, by omega⟩
  have h_37 := ir_p0_2 hJ9 hA
  have h_38 : m9 A 2 = si + 1 := wd_fv (z := 2) 2 rfl hW (ck_p0 hA) (ck_p0 hA) rfl rfl (by omega) (up_e rfl) ⟨by omega, by omega⟩ ⟨by omega, by omega⟩
  have kn_39 : Hid (c_12 A 3 = du) := (hF_14 A 3 (fun q => q.elim (fun h => absurd h.1 (np0 hA rfl)) (fun q => q.elim (fun h => absurd h.1 (np0 hA rfl)) (fun h => absurd h.1 (np0 hA rfl))))).trans (hg_du)
  have h_40 := ir_p0_3 hJ9 hA
  have h_41 : m9 A 3 = du := wd_fv (z := 3) 3 rfl hW (ck_p0 hA) (ck_p0 hA) rfl rfl (by omega) ((up_n (by decide)).trans ((up_c (p0p rfl)).trans (hid kn_39))) ⟨by omega, by omega⟩ ⟨by omega, by omega⟩
  refine q_iload_n rfl rfl ?_
  refine q_ldc_s rfl rfl rfl (by decide) ?_
  refine q_call rfl rfl rfl rfl (s_158_16 ?_)
  refine bk_inl ?_
  refine v_ic_ne_t (t := 56) rfl (by decide) (by decide) ?_
  refine q_iload_n rfl rfl ?_
  refine q_ldc_s rfl rfl rfl (by decide) ?_
  refine q_call rfl rfl rfl rfl (s_158_17 ?_)
  refine bk_inl ?_
  refine v_ic_ne_t (t := 111) rfl (by decide) (by decide) ?_
  refine q_iload_n rfl rfl ?_
  refine q_ldc_s rfl rfl rfl (by decide) ?_
  refine q_call rfl rfl rfl rfl (s_158_18 ?_)
  refine bk_inl ?_
  refine v_ic_ne_f (t := 148) rfl (by decide) (by decide) ?_
  refine q_aload_n rfl rfl ?_
  refine v_gr (t := 46) rfl rfl rfl (by decide) rfl ?_
  refine q_aload_n rfl rfl ?_
  refine v_gi (z := 18) (v := si) rfl rfl rfl (by decide) rfl rfl (hr_si) ?_
  refine q_aload_n rfl rfl ?_
  refine q_iconst rfl ?_
  refine q_iconst rfl ?_
  have h_42 := ir_1_2 hJ
  refine v_cv rfl rfl rfl rfl (by decide) ⟨⟨rfl, rfl⟩, by decide, rfl⟩ (Nat.le_of_ble_eq_true rfl) (Nat.le_of_ble_eq_true rfl) (L_8 (m := m) (a2 := 2) (yg := y_15) (e1 := e1) (a9 := m 1 2) (F := F) (H := H) hI hJ hI_13 (show (-1) ≤ 2 ∧ 2 ≤ 9999 from by omega) ⟨by omega, by omega⟩ ((hg_e1)) ((hr_e1)) (rfl) (fun j => hF j) (fun j => hH j) hU hRt hG_17 (fun c_43 y_46 hI_44 hF_45 hy_46 hR_47 h_48 h_49 => ?_))
  refine bk_inl ?_
  have hs_50 := h_48.symm
  subst hs_50
  refine v_is rfl rfl (by decide) (by decide) (by omega) ?_
  refine q_aload_n rfl rfl ?_
  refine q_dup rfl rfl ?_
  have kn_51 : Hid (c_43 41 18 = si) := (hF_45 41 18 (fun q => q.elim (fun h => absurd h.2 (ni rfl)) (fun q => q.elim (fun h => absurd h.2 (ni rfl)) (fun h => absurd h.2 (ni rfl))))).trans (hr_si)
  refine v_gi (z := 18) (v := si) rfl rfl rfl (by decide) rfl rfl ((up_c (nn rfl)).trans (hid kn_51)) ?_
  refine q_iconst rfl ?_
  refine v_iadd (v := si + 1) rfl (by omega) ?_
  refine v_pi (z := 18) rfl rfl rfl (by decide) rfl rfl rfl (by decide) ?_
  refine q_goto (t := 159) rfl (by decide) ?_
  refine q_vret rfl rfl ?_
  have hI_52 := iw_46 (j := si) (v := y_15) hI_44 ⟨by omega, by omega⟩
  have hI_53 := iw_41_18 (v := si + 1) hI_52 ⟨by omega, by omega⟩
  have h_54 := ir_41_5 hI_44
  have h_55 := ir_41_4 hI_44
  have h_56 := ir_41_6 hI_44
  have h_57 := rt_or hR_47
  have h_58 : (up (up c_43 46 si y_15) 41 18 (si + 1)) 41 5 = c_43 41 5 := ((up_n (by decide)).trans (up_c (nn rfl)))
  have h_59 : (up (up c_43 46 si y_15) 41 18 (si + 1)) 41 4 = c_43 41 4 := ((up_n (by decide)).trans (up_c (nn rfl)))
  have h_60 : (up (up c_43 46 si y_15) 41 18 (si + 1)) 41 6 = c_43 41 6 := ((up_n (by decide)).trans (up_c (nn rfl)))
  have kn_61 : Hid (c_43 41 16 = jr) := (hF_45 41 16 (fun q => q.elim (fun h => absurd h.2 (ni rfl)) (fun q => q.elim (fun h => absurd h.2 (ni rfl)) (fun h => absurd h.2 (ni rfl))))).trans (hr_jr)
  have h_62 : (up (up c_43 46 si y_15) 41 18 (si + 1)) 41 16 = jr := ((up_n (by decide)).trans ((up_c (nn rfl)).trans (hid kn_61)))
  have kn_63 : Hid (c_43 41 17 = st) := (hF_45 41 17 (fun q => q.elim (fun h => absurd h.2 (ni rfl)) (fun q => q.elim (fun h => absurd h.2 (ni rfl)) (fun h => absurd h.2 (ni rfl))))).trans (hr_st)
  have h_64 : (up (up c_43 46 si y_15) 41 18 (si + 1)) 41 17 = st := ((up_n (by decide)).trans ((up_c (nn rfl)).trans (hid kn_63)))
  have h_65 : (up (up c_43 46 si y_15) 41 18 (si + 1)) 41 18 = si + 1 := (up_e rfl)
  have kn_66 : Hid (c_43 41 19 = du) := (hF_45 41 19 (fun q => q.elim (fun h => absurd h.2 (ni rfl)) (fun q => q.elim (fun h => absurd h.2 (ni rfl)) (fun h => absurd h.2 (ni rfl))))).trans (hr_du)
  have h_67 : (up (up c_43 46 si y_15) 41 18 (si + 1)) 41 19 = du := ((up_n (by decide)).trans ((up_c (nn rfl)).trans (hid kn_66)))
  have h_68 : (up (up c_43 46 si y_15) 41 18 (si + 1)) 41 16 = jr := ((up_n (by decide)).trans ((up_c (nn rfl)).trans (hid kn_61)))
  have hA_69 : Ae (4 * jr) ((up (up c_12 (A + 3) si y_15) A 2 (si + 1)) (A + 1)) ((up (up c_43 46 si y_15) 41 18 (si + 1)) 44) := ae_fr hr0 (fun j => (up_c (pp0 rfl)).trans ((up_c (pp rfl)).trans (hF_14 (A + 1) j (fun q => q.elim (fun h => absurd h.1 (np hA rfl rfl)) (fun q => q.elim (fun h => absurd h.1 (np hA rfl rfl)) (fun h => absurd h.1 (np hA rfl rfl))))))) (fun j => (up_c (nn rfl)).trans ((up_c (nn rfl)).trans (hF_45 44 j (fun q => q.elim (fun h => absurd h.1 (nn rfl)) (fun q => q.elim (fun h => absurd h.1 (nn rfl)) (fun h => absurd h.1 (nn rfl)))))))
  have hA_70 : Ae (4 * jr) (m9 (A + 1)) ((up (up c_43 46 si y_15) 41 18 (si + 1)) 44) := ae_l hA_69 (fun j h1 h2 => wd_av hW (ck_p1 hA) (ck_p1 hA) (by decide) (by omega) ⟨h1, by omega⟩ rfl (wide (ir_p1 hI_20 hA j) (by decide) (by decide)) (wide (ir_p1 hJ9 hA j) (by decide) (by decide)))
  have h_71 : (up (up c_43 46 si y_15) 41 18 (si + 1)) 41 17 = st := ((up_n (by decide)).trans ((up_c (nn rfl)).trans (hid kn_63)))
  have hA_72 : Ae (3 * st) ((up (up c_12 (A + 3) si y_15) A 2 (si + 1)) (A + 2)) ((up (up c_43 46 si y_15) 41 18 (si + 1)) 45) := ae_fr hr1 (fun j => (up_c (pp0 rfl)).trans ((up_c (pp rfl)).trans (hF_14 (A + 2) j (fun q => q.elim (fun h => absurd h.1 (np hA rfl rfl)) (fun q => q.elim (fun h => absurd h.1 (np hA rfl rfl)) (fun h => absurd h.1 (np hA rfl rfl))))))) (fun j => (up_c (nn rfl)).trans ((up_c (nn rfl)).trans (hF_45 45 j (fun q => q.elim (fun h => absurd h.1 (nn rfl)) (fun q => q.elim (fun h => absurd h.1 (nn rfl)) (fun h => absurd h.1 (nn rfl)))))))
  have hA_73 : Ae (3 * st) (m9 (A + 2)) ((up (up c_43 46 si y_15) 41 18 (si + 1)) 45) := ae_l hA_72 (fun j h1 h2 => wd_av hW (ck_p2 hA) (ck_p2 hA) (by decide) (by omega) ⟨h1, by omega⟩ rfl (wide (ir_p2 hI_20 hA j) (by decide) (by decide)) (wide (ir_p2 hJ9 hA j) (by decide) (by decide)))
  have h_74 : (up (up c_43 46 si y_15) 41 18 (si + 1)) 41 18 = si + 1 := (up_e rfl)
  have hA_75 : Ae (si + 1) ((up (up c_12 (A + 3) si y_15) A 2 (si + 1)) (A + 3)) ((up (up c_43 46 si y_15) 41 18 (si + 1)) 46) := ae_w (i := si) (v := y_15) hr2 (by omega) ((up_c (pp0 rfl)).trans (up_e rfl)) ((up_c (nn rfl)).trans (up_e rfl)) (fun j hj => (up_c (pp0 rfl)).trans ((up_n hj).trans (hF_14 (A + 3) j (fun q => q.elim (fun h => absurd h.1 (np hA rfl rfl)) (fun q => q.elim (fun h => absurd h.1 (np hA rfl rfl)) (fun h => absurd h.1 (np hA rfl rfl))))))) (fun j hj => (up_c (nn rfl)).trans ((up_n hj).trans (hF_45 46 j (fun q => q.elim (fun h => absurd h.1 (nn rfl)) (fun q => q.elim (fun h => absurd h.1 (nn rfl)) (fun h => absurd h.1 (nn rfl)))))))
  have hA_76 : Ae (si + 1) (m9 (A + 3)) ((up (up c_43 46 si y_15) 41 18 (si + 1)) 46) := ae_l hA_75 (fun j h1 h2 => wd_av hW (ck_p3 hA) (ck_p3 hA) (by decide) (by omega) ⟨h1, by omega⟩ rfl (wide (ir_p3 hI_20 hA j) (by decide) (by decide)) (wide (ir_p3 hJ9 hA j) (by decide) (by decide)))
  exact K (up (up c_43 46 si y_15) 41 18 (si + 1))  hI_53 (fun a j hm => (up_b (Decidable.or_iff_not_imp_left.mpr (fun h1 h2 => hm (Or.inr (Or.inr (Or.inr (Or.inr (Or.inr (Or.inl ⟨Decidable.not_not.mp h1, h2⟩))))))))).trans ((up_b (Decidable.or_iff_not_imp_left.mpr (fun h1 h2 => hm (Or.inr (Or.inr (Or.inr (Or.inr (Or.inr (Or.inr (Or.inr (Or.inr (Or.inr (Decidable.not_not.mp h1))))))))))))).trans (hF_45 a j (fun q => q.elim (fun h => hm (Or.inl h)) (fun q => q.elim (fun h => hm (Or.inr (Or.inl h))) (fun h => hm (Or.inr (Or.inr (Or.inl h))))))))) (by unfold Rt; omega) (by omega) (by omega) (by omega) (by omega) (ae_le hA_70 (by omega)) (ae_le hA_73 (by omega)) (ae_le hA_76 (by omega))

set_option maxRecDepth 100000 in
set_option maxHeartbeats 4000000 in
theorem L_33a_3 {sc : List Int32} {e eg : Int} {d dh u ug P Q P2 Q2 A : Nat} {c m m9 : ME} {e1 jr st si du : Int} {F H : Int → Int} {Z : AR → Prop} (hI : Iv u e P2 Q2 c) (hJ : Iv ug eg P Q m) (hJ9 : Iv ug eg P Q m9) (hA : A = 13 ∨ A = 25) (hg_e1 : m 1 1 = e1) (hr_e1 : c 41 3 = e1) (hg_jr : m A 0 = jr) (hr_jr : c 41 16 = jr) (hg_st : m A 1 = st) (hr_st : c 41 17 = st) (hg_si : m A 2 = si) (hr_si : c 41 18 = si) (hg_du : m A 3 = du) (hr_du : c 41 19 = du) (hF : ∀ j : Int, m 2 j = F j) (hH : ∀ j : Int, c 43 j = H j) (hU : Ub F H) (hRt : Rt m c) (hr0 : Ae (4 * jr) (m (A + 1)) (c 44)) (hr1 : Ae (3 * st) (m (A + 2)) (c 45)) (hr2 : Ae si (m (A + 3)) (c 46)) (hG : Wp sc (dh + 18) 33 0 [(0, .ref A), (1, .ref 1), (2, vi 3)] [] (Wd P Q P P m) 0 0 (fun q => q = (.inl (none), Wd P Q P P m9, 0, 0))) (K : ∀ (c2 : ME), Iv u e P2 Q2 c2 → (∀ (a : Nat) (j : Int), ¬ ((a = 41 ∧ j = 4) ∨ (a = 41 ∧ j = 5) ∨ (a = 41 ∧ j = 6) ∨ (a = 41 ∧ j = 16) ∨ (a = 41 ∧ j = 17) ∨ (a = 41 ∧ j = 18) ∨ (a = 41 ∧ j = 19) ∨ a = 44 ∨ a = 45 ∨ a = 46) → c2 a j = c a j) → (Rt m9 c2) → ((m9 A 0 = c2 41 16)) → ((m9 A 1 = c2 41 17)) → ((m9 A 2 = c2 41 18)) → ((m9 A 3 = c2 41 19)) → (Ae (4 * c2 41 16) (m9 (A + 1)) (c2 44)) → (Ae (3 * c2 41 17) (m9 (A + 2)) (c2 45)) → (Ae (c2 41 18) (m9 (A + 3)) (c2 46)) → Z (.inl (none), Wd P2 Q2 P2 P2 c2, 0, 0)) : Wp sc (d + 18) 168 0 [(0, .ref 41), (1, vi 153204)] [] (Wd P2 Q2 P2 P2 c) 0 0 Z := by
  have hP := iv_P hJ
  have hQ := iv_Q hJ
  have h_1 := ir_1_1 hJ
  have h_2 := ir_41_3 hI
  have h_3 := ir_p0_0 hJ hA
  have h_4 := ir_41_16 hI
  have h_5 := ir_p0_1 hJ hA
  have h_6 := ir_41_17 hI
  have h_7 := ir_p0_2 hJ hA
  have h_8 := ir_41_18 hI
  have h_9 := ir_p0_3 hJ hA
  have h_10 := ir_41_19 hI
  refine gh hG ?_
  refine q_iload_n rfl rfl ?_
  refine v_tsw_o (t := 116) rfl (by omega) (by decide) ?_
  refine q_aload_n rfl rfl ?_
  refine q_aload_n rfl rfl ?_
  refine v_bip rfl (by decide) ?_
  have h_11 := ir_1_4 hJ
  refine v_cv rfl rfl rfl rfl (by decide) ⟨⟨rfl, rfl⟩, by decide, rfl⟩ (Nat.le_of_ble_eq_true rfl) (Nat.le_of_ble_eq_true rfl) (fn_of (s_8 (a1 := 50) hJ (show (-1) ≤ 50 ∧ 50 ≤ 9999 from by omega) (fun c_12 y_15 hI_13 hF_14 hy_15 h_16 => ?_)))
  intro hG_17
  refine bk_inl ?_
  refine v_pi (z := 3) rfl rfl (ck_p0 hA) (by omega) rfl rfl rfl (by decide) ?_
  refine q_vret rfl rfl ?_
  have hI_18 := iw_p0_3 (v := y_15) hI_13 hA ⟨by omega, by omega⟩
  intro hE_19
  have hW : Wd P Q P P (up c_12 A 3 y_15) = Wd P Q P P m9 := (Prod.mk.inj (Prod.mk.inj hE_19).2).1
  have h_20 := ir_1_4 hI_13
  have h_21 := ir_1_4 hJ9
  have h_22 : m9 1 4 = c_12 1 4 := wd_fv (z := 4) 4 rfl hW rfl rfl rfl rfl (by decide) (up_c (pn0 hA rfl)) ⟨by omega, by omega⟩ ⟨by omega, by omega⟩
  have h_23 := ir_1_2 hI_13
  have h_24 := ir_1_2 hJ9
  have h_25 : m9 1 2 = c_12 1 2 := wd_fv (z := 2) 2 rfl hW rfl rfl rfl rfl (by decide) (up_c (pn0 hA rfl)) ⟨by omega, by omega⟩ ⟨by omega, by omega⟩
  have h_26 := ir_1_5 hI_13
  have h_27 := ir_1_5 hJ9
  have h_28 : m9 1 5 = c_12 1 5 := wd_fv (z := 5) 5 rfl hW rfl rfl rfl rfl (by decide) (up_c (pn0 hA rfl)) ⟨by omega, by omega⟩ ⟨by omega, by omega⟩
  have kn_29 : Hid (c_12 A 0 = jr) := (hF_14 A 0 (fun q => q.elim (fun h => absurd h.1 (np0 hA rfl)) (fun q => q.elim (fun h => absurd h.1 (np0 hA rfl)) (fun h => absurd h.1 (np0 hA rfl))))).trans (hg_jr)
  have h_30 := ir_p0_0 hJ9 hA
  have h_31 : m9 A 0 = jr := wd_fv (z := 0) 0 rfl hW (ck_p0 hA) (ck_p0 hA) rfl rfl (by omega) ((up_n (by decide)).trans (hid kn_29)) ⟨by omega, by omega⟩ ⟨by omega, by omega⟩
  have kn_32 : Hid (c_12 A 1 = st) := (hF_14 A 1 (fun q => q.elim (fun h => absurd h.1 (np0 hA rfl)) (fun q => q.elim (fun h => absurd h.1 (np0 hA rfl)) (fun h => absurd h.1 (np0 hA rfl))))).trans (hg_st)
  have h_33 := ir_p0_1 hJ9 hA
  have h_34 : m9 A 1 = st := wd_fv (z := 1) 1 rfl hW (ck_p0 hA) (ck_p0 hA) rfl rfl (by omega) ((up_n (by decide)).trans (hid kn_32)) ⟨by omega, by omega⟩ ⟨by omega, by omega⟩
  have kn_35 : Hid (c_12 A 2 = si) := (hF_14 A 2 (fun q => q.elim (fun h => absurd h.1 (np0 hA rfl)) (fun q => q.elim (fun h => absurd h.1 (np0 hA rfl)) (fun h => absurd h.1 (np0 hA rfl))))).trans (hg_si)
  have h_36 := ir_p0_2 hJ9 hA
  have h_37 : m9 A 2 = si := wd_fv (z := 2) 2 rfl hW (ck_p0 hA) (ck_p0 hA) rfl rfl (by omega) ((up_n (by decide)).trans (hid kn_35)) ⟨by omega, by omega⟩ ⟨by omega, by omega⟩
  have h_38 := ir_p0_3 hJ9 hA
  have h_39 : m9 A 3 = y_15 := wd_fv (z := 3) 3 rfl hW (ck_p0 hA) (ck_p0 hA) rfl rfl (by omega) (up_e rfl) ⟨by omega, by omega⟩ ⟨by omega, by omega⟩
  refine q_iload_n rfl rfl ?_
  refine q_ldc_s rfl rfl rfl (by decide) ?_
  refine q_call rfl rfl rfl rfl (s_158_16 ?_)
  refine bk_inl ?_
  refine v_ic_ne_t (t := 56) rfl (by decide) (by decide) ?_
  refine q_iload_n rfl rfl ?_
  refine q_ldc_s rfl rfl rfl (by decide) ?_
  refine q_call rfl rfl rfl rfl (s_158_17 ?_)
  refine bk_inl ?_
  refine v_ic_ne_t (t := 111) rfl (by decide) (by decide) ?_
  refine q_iload_n rfl rfl ?_
  refine q_ldc_s rfl rfl rfl (by decide) ?_
  refine q_call rfl rfl rfl rfl (s_158_18 ?_)
  refine bk_inl ?_
  refine v_ic_ne_t (t := 148) rfl (by decide) (by decide) ?_
  refine q_aload_n rfl rfl ?_
  refine q_aload_n rfl rfl ?_
  refine q_iconst rfl ?_
  refine v_bip rfl (by decide) ?_
  have h_40 := ir_1_2 hJ
  refine v_cv rfl rfl rfl rfl (by decide) ⟨⟨rfl, rfl⟩, by decide, rfl⟩ (Nat.le_of_ble_eq_true rfl) (Nat.le_of_ble_eq_true rfl) (L_8 (m := m) (a2 := 50) (yg := y_15) (e1 := e1) (a9 := m 1 2) (F := F) (H := H) hI hJ hI_13 (show (-1) ≤ 50 ∧ 50 ≤ 9999 from by omega) ⟨by omega, by omega⟩ ((hg_e1)) ((hr_e1)) (rfl) (fun j => hF j) (fun j => hH j) hU hRt hG_17 (fun c_41 y_44 hI_42 hF_43 hy_44 hR_45 h_46 h_47 => ?_))
  refine bk_inl ?_
  have hs_48 := h_46.symm
  subst hs_48
  refine v_pi (z := 19) rfl rfl rfl (by decide) rfl rfl rfl (by decide) ?_
  refine q_vret rfl rfl ?_
  have hI_49 := iw_41_19 (v := y_15) hI_42 ⟨by omega, by omega⟩
  have h_50 := ir_41_5 hI_42
  have h_51 := ir_41_4 hI_42
  have h_52 := ir_41_6 hI_42
  have h_53 := rt_or hR_45
  have h_54 : (up c_41 41 19 y_15) 41 5 = c_41 41 5 := (up_n (by decide))
  have h_55 : (up c_41 41 19 y_15) 41 4 = c_41 41 4 := (up_n (by decide))
  have h_56 : (up c_41 41 19 y_15) 41 6 = c_41 41 6 := (up_n (by decide))
  have kn_57 : Hid (c_41 41 16 = jr) := (hF_43 41 16 (fun q => q.elim (fun h => absurd h.2 (ni rfl)) (fun q => q.elim (fun h => absurd h.2 (ni rfl)) (fun h => absurd h.2 (ni rfl))))).trans (hr_jr)
  have h_58 : (up c_41 41 19 y_15) 41 16 = jr := ((up_n (by decide)).trans (hid kn_57))
  have kn_59 : Hid (c_41 41 17 = st) := (hF_43 41 17 (fun q => q.elim (fun h => absurd h.2 (ni rfl)) (fun q => q.elim (fun h => absurd h.2 (ni rfl)) (fun h => absurd h.2 (ni rfl))))).trans (hr_st)
  have h_60 : (up c_41 41 19 y_15) 41 17 = st := ((up_n (by decide)).trans (hid kn_59))
  have kn_61 : Hid (c_41 41 18 = si) := (hF_43 41 18 (fun q => q.elim (fun h => absurd h.2 (ni rfl)) (fun q => q.elim (fun h => absurd h.2 (ni rfl)) (fun h => absurd h.2 (ni rfl))))).trans (hr_si)
  have h_62 : (up c_41 41 19 y_15) 41 18 = si := ((up_n (by decide)).trans (hid kn_61))
  have h_63 : (up c_41 41 19 y_15) 41 19 = y_15 := (up_e rfl)
  have h_64 : (up c_41 41 19 y_15) 41 16 = jr := ((up_n (by decide)).trans (hid kn_57))
  have hA_65 : Ae (4 * jr) ((up c_12 A 3 y_15) (A + 1)) ((up c_41 41 19 y_15) 44) := ae_fr hr0 (fun j => (up_c (pp0 rfl)).trans (hF_14 (A + 1) j (fun q => q.elim (fun h => absurd h.1 (np hA rfl rfl)) (fun q => q.elim (fun h => absurd h.1 (np hA rfl rfl)) (fun h => absurd h.1 (np hA rfl rfl)))))) (fun j => (up_c (nn rfl)).trans (hF_43 44 j (fun q => q.elim (fun h => absurd h.1 (nn rfl)) (fun q => q.elim (fun h => absurd h.1 (nn rfl)) (fun h => absurd h.1 (nn rfl))))))
  have hA_66 : Ae (4 * jr) (m9 (A + 1)) ((up c_41 41 19 y_15) 44) := ae_l hA_65 (fun j h1 h2 => wd_av hW (ck_p1 hA) (ck_p1 hA) (by decide) (by omega) ⟨h1, by omega⟩ rfl (wide (ir_p1 hI_18 hA j) (by decide) (by decide)) (wide (ir_p1 hJ9 hA j) (by decide) (by decide)))
  have h_67 : (up c_41 41 19 y_15) 41 17 = st := ((up_n (by decide)).trans (hid kn_59))
  have hA_68 : Ae (3 * st) ((up c_12 A 3 y_15) (A + 2)) ((up c_41 41 19 y_15) 45) := ae_fr hr1 (fun j => (up_c (pp0 rfl)).trans (hF_14 (A + 2) j (fun q => q.elim (fun h => absurd h.1 (np hA rfl rfl)) (fun q => q.elim (fun h => absurd h.1 (np hA rfl rfl)) (fun h => absurd h.1 (np hA rfl rfl)))))) (fun j => (up_c (nn rfl)).trans (hF_43 45 j (fun q => q.elim (fun h => absurd h.1 (nn rfl)) (fun q => q.elim (fun h => absurd h.1 (nn rfl)) (fun h => absurd h.1 (nn rfl))))))
  have hA_69 : Ae (3 * st) (m9 (A + 2)) ((up c_41 41 19 y_15) 45) := ae_l hA_68 (fun j h1 h2 => wd_av hW (ck_p2 hA) (ck_p2 hA) (by decide) (by omega) ⟨h1, by omega⟩ rfl (wide (ir_p2 hI_18 hA j) (by decide) (by decide)) (wide (ir_p2 hJ9 hA j) (by decide) (by decide)))
  have h_70 : (up c_41 41 19 y_15) 41 18 = si := ((up_n (by decide)).trans (hid kn_61))
  have hA_71 : Ae si ((up c_12 A 3 y_15) (A + 3)) ((up c_41 41 19 y_15) 46) := ae_fr hr2 (fun j => (up_c (pp0 rfl)).trans (hF_14 (A + 3) j (fun q => q.elim (fun h => absurd h.1 (np hA rfl rfl)) (fun q => q.elim (fun h => absurd h.1 (np hA rfl rfl)) (fun h => absurd h.1 (np hA rfl rfl)))))) (fun j => (up_c (nn rfl)).trans (hF_43 46 j (fun q => q.elim (fun h => absurd h.1 (nn rfl)) (fun q => q.elim (fun h => absurd h.1 (nn rfl)) (fun h => absurd h.1 (nn rfl))))))
  have hA_72 : Ae si (m9 (A + 3)) ((up c_41 41 19 y_15) 46) := ae_l hA_71 (fun j h1 h2 => wd_av hW (ck_p3 hA) (ck_p3 hA) (by decide) (by omega) ⟨h1, by omega⟩ rfl (wide (ir_p3 hI_18 hA j) (by decide) (by decide)) (wide (ir_p3 hJ9 hA j) (by decide) (by decide)))
  exact K (up c_41 41 19 y_15)  hI_49 (fun a j hm => (up_b (Decidable.or_iff_not_imp_left.mpr (fun h1 h2 => hm (Or.inr (Or.inr (Or.inr (Or.inr (Or.inr (Or.inr (Or.inl ⟨Decidable.not_not.mp h1, h2⟩)))))))))).trans (hF_43 a j (fun q => q.elim (fun h => hm (Or.inl h)) (fun q => q.elim (fun h => hm (Or.inr (Or.inl h))) (fun h => hm (Or.inr (Or.inr (Or.inl h)))))))) (by unfold Rt; omega) (by omega) (by omega) (by omega) (by omega) (ae_le hA_66 (by omega)) (ae_le hA_69 (by omega)) (ae_le hA_72 (by omega))

set_option maxRecDepth 100000 in
set_option maxHeartbeats 4000000 in
theorem L_34a_l {sc : List Int32} {e eg : Int} {d dh u ug P Q P2 Q2 A : Nat} {c m m9 : ME} {a1 e1 f0 g0 z0 z1 z2 z3 : Int} {F H : Int → Int} {Z : AR → Prop} (hI : Iv u e P2 Q2 c) (hJ : Iv ug eg P Q m) (hJ9 : Iv ug eg P Q m9) (hA : A = 13 ∨ A = 25) (ha1 : (-2147483648) ≤ a1 ∧ a1 ≤ 2147483647) (hq0 : (f0 = 0)) (hq1 : (g0 = (-1))) (hq2 : (z0 = 0)) (hq3 : (z1 = 0)) (hq4 : (z2 = 0)) (hq5 : (z3 = 5)) (hg_e1 : m 1 1 = e1) (hr_e1 : c 41 3 = e1) (hg_f0 : m 1 4 = f0) (hg_g0 : m 1 5 = g0) (hr_z0 : c 41 16 = z0) (hr_z1 : c 41 17 = z1) (hr_z2 : c 41 18 = z2) (hr_z3 : c 41 19 = z3) (hF : ∀ j : Int, m 2 j = F j) (hH : ∀ j : Int, c 43 j = H j) (hU : Ub F H) (hRt : Rt m c) (K : ∀ (c2 : ME), Iv u e P2 Q2 c2 → (∀ (a : Nat) (j : Int), ¬ ((a = 41 ∧ j = 4) ∨ (a = 41 ∧ j = 5) ∨ (a = 41 ∧ j = 6) ∨ (a = 41 ∧ j = 16) ∨ (a = 41 ∧ j = 17) ∨ (a = 41 ∧ j = 18) ∨ (a = 41 ∧ j = 19) ∨ a = 44 ∨ a = 45 ∨ a = 46) → c2 a j = c a j) → (Rt m9 c2) → ((m9 1 4 < 0) ∨ (m9 1 4 > 0) ∨ (m9 A 0 = c2 41 16 ∧ m9 A 1 = c2 41 17 ∧ m9 A 2 = c2 41 18 ∧ m9 A 3 = c2 41 19)) → (m9 1 4 = 0 → Ae (4 * c2 41 16) (m9 (A + 1)) (c2 44)) → (m9 1 4 = 0 → Ae (3 * c2 41 17) (m9 (A + 2)) (c2 45)) → (m9 1 4 = 0 → Ae (c2 41 18) (m9 (A + 3)) (c2 46)) → Wp sc (d + 22) 169 136 [(0, .ref 41), (1, vi a1)] [] (Wd P2 Q2 P2 P2 c2) 0 0 Z) : ∀ n : Nat, (∀ (c2 m2 : ME) (v : Int) (a : Int) (jr : Int) (st : Int) (si : Int) (du : Int), Iv u e P2 Q2 c2 → (∀ (a : Nat) (j : Int), ¬ ((a = 41 ∧ j = 4) ∨ (a = 41 ∧ j = 5) ∨ (a = 41 ∧ j = 6) ∨ (a = 41 ∧ j = 16) ∨ (a = 41 ∧ j = 17) ∨ (a = 41 ∧ j = 18) ∨ (a = 41 ∧ j = 19) ∨ a = 44 ∨ a = 45 ∨ a = 46) → c2 a j = c a j) → Iv ug eg P Q m2 → (∀ (a : Nat) (j : Int), ¬ ((a = 1 ∧ j = 2) ∨ (a = 1 ∧ j = 4) ∨ (a = 1 ∧ j = 5) ∨ (a = A ∧ j = 0) ∨ (a = A ∧ j = 1) ∨ (a = A ∧ j = 2) ∨ (a = A ∧ j = 3) ∨ a = (A + 1) ∨ a = (A + 2) ∨ a = (A + 3) ∨ (a = A ∧ j = 4) ∨ (a = A ∧ j = 5) ∨ a = (A + 6) ∨ (a = (A + 7) ∧ j = 4)) → m2 a j = m a j) → 0 ≤ v ∧ v ≤ 60 → 0 ≤ a ∧ a ≤ 600 → 0 ≤ jr ∧ jr ≤ 6 → 0 ≤ st ∧ st ≤ 4 → 0 ≤ si ∧ si ≤ 4 → 0 ≤ du ∧ du ≤ 50 → m2 1 2 = a → c2 41 4 = a → m2 A 0 = jr → c2 41 16 = jr → m2 A 1 = st → c2 41 17 = st → m2 A 2 = si → c2 41 18 = si → m2 A 3 = du → c2 41 19 = du → m2 1 4 = 0 → c2 41 5 = (-1) → m2 1 5 = (-1) → (Ae (4 * jr) (m2 (A + 1)) (c2 44)) → (Ae (3 * st) (m2 (A + 2)) (c2 45)) → (Ae si (m2 (A + 3)) (c2 46)) → Wp sc (dh + 30) 34 6 [(0, .ref A), (1, .ref 1), (2, vi v)] [] (Wd P Q P P m2) 0 0 (fun q => q = (.inl (none), Wd P Q P P m9, 0, 0)) → 61 - v < (n : Int) → Wp sc (d + 22) 169 44 [(0, .ref 41), (1, vi a1), (2, vi v)] [] (Wd P2 Q2 P2 P2 c2) 0 0 Z)
  | 0 => by intro c2 m2 v a jr st si du hI2 hFc hJ2 hFm hv ha hjr hst hsi hdu hg_a hr_a hg_jr hr_jr hg_st hr_st hg_si hr_si hg_du hr_du hc_0 hc_1 hc_2 hrl0 hrl1 hrl2 hG2 hm9; exfalso; omega
  | n + 1 => by
    have hP := iv_P hJ
    have hQ := iv_Q hJ
    have ih := L_34a_l (sc := sc) (d := d) (dh := dh) hI hJ hJ9 hA ha1 hq0 hq1 hq2 hq3 hq4 hq5 hg_e1 hr_e1 hg_f0 hg_g0 hr_z0 hr_z1 hr_z2 hr_z3 hF hH hU hRt K n
    intro c2 m2 v a jr st si du hI2 hFc hJ2 hFm hv ha hjr hst hsi hdu hg_a hr_a hg_jr hr_jr hg_st hr_st hg_si hr_si hg_du hr_du hc_0 hc_1 hc_2 hrl0 hrl1 hrl2 hG2 hm9
    have h_1 := ir_1_1 hJ
    have h_2 := ir_41_3 hI
    have h_3 := ir_1_4 hJ
    have h_4 := ir_1_5 hJ
    have h_5 := ir_41_16 hI
    have h_6 := ir_41_17 hI
    have h_7 := ir_41_18 hI
    have h_8 := ir_41_19 hI
    have h_9 := ir_1_2 hJ2
    have h_10 := ir_41_4 hI2
    have h_11 := ir_p0_0 hJ2 hA
    have h_12 := ir_41_16 hI2
    have h_13 := ir_p0_1 hJ2 hA
    have h_14 := ir_41_17 hI2
    have h_15 := ir_p0_2 hJ2 hA
    have h_16 := ir_41_18 hI2
    have h_17 := ir_p0_3 hJ2 hA
    have h_18 := ir_41_19 hI2
    have h_19 := ir_1_4 hJ2
    have h_20 := ir_41_5 hI2
    have h_21 := ir_1_5 hJ2
    refine gh hG2 ?_
    refine q_iload_n rfl rfl ?_
    refine v_bip rfl (by decide) ?_
    refine v_ic_gt_f (t := 85) rfl (by decide) (by omega) ?_
    refine q_aload_n rfl rfl ?_
    refine v_cv rfl rfl rfl rfl (by decide) ⟨⟨rfl, rfl⟩, by decide, rfl⟩ (Nat.le_of_ble_eq_true rfl) (Nat.le_of_ble_eq_true rfl) ?_
    refine q_aload_n rfl rfl ?_
    refine v_cv rfl rfl rfl rfl (by decide) ⟨⟨rfl, rfl⟩, by decide, rfl⟩ (Nat.le_of_ble_eq_true rfl) (Nat.le_of_ble_eq_true rfl) ?_
    refine q_aload_n rfl rfl ?_
    refine v_gi (z := 4) (v := 0) rfl rfl rfl (by decide) rfl rfl (hc_0) ?_
    refine v_if_ne_f (t := 11) rfl (by decide) (by decide) ?_
    refine q_iconst rfl ?_
    refine q_goto (t := 12) rfl (by decide) ?_
    refine v_zret rfl rfl (by decide) ?_
    refine bk_inl ?_
    refine v_if_eq_f (t := 22) rfl (by decide) (by decide) ?_
    refine q_aload_n rfl rfl ?_
    have kn_22 : Hid (m2 1 1 = e1) := (hFm 1 1 (fun q => q.elim (fun h => absurd h.2 (ni rfl)) (fun q => q.elim (fun h => absurd h.2 (ni rfl)) (fun q => q.elim (fun h => absurd h.2 (ni rfl)) (fun q => q.elim (fun h => absurd h.1 (pn0 hA rfl)) (fun q => q.elim (fun h => absurd h.1 (pn0 hA rfl)) (fun q => q.elim (fun h => absurd h.1 (pn0 hA rfl)) (fun q => q.elim (fun h => absurd h.1 (pn0 hA rfl)) (fun q => q.elim (fun h => absurd h (pn hA rfl rfl)) (fun q => q.elim (fun h => absurd h (pn hA rfl rfl)) (fun q => q.elim (fun h => absurd h (pn hA rfl rfl)) (fun q => q.elim (fun h => absurd h.1 (pn0 hA rfl)) (fun q => q.elim (fun h => absurd h.1 (pn0 hA rfl)) (fun q => q.elim (fun h => absurd h (pn hA rfl rfl)) (fun h => absurd h.1 (pn hA rfl rfl)))))))))))))))).trans (hg_e1)
    have h_23 : -2147483648 ≤ (F a) ∧ (F a) ≤ 2147483647 := by rw [← hF a]; exact ir_2 hJ a
    have h_24 := nx_bd (b := F) (e := e1) (a := a)
    have h_25 : -2147483648 ≤ (F (nx F e1 a)) ∧ (F (nx F e1 a)) ≤ 2147483647 := by rw [← hF (nx F e1 a)]; exact ir_2 hJ (nx F e1 a)
    have h_26 := nx_n (b := F) (e := e1) (a := a)
    refine v_cv rfl rfl rfl rfl (by decide) ⟨⟨rfl, rfl⟩, by decide, rfl⟩ (Nat.le_of_ble_eq_true rfl) (Nat.le_of_ble_eq_true rfl) (f_3 (e1 := e1) (a9 := a) (B := F) (r8 := (nx F e1 a)) hJ2 ((hid kn_22)) ((hg_a)) (fun j => (hFm 2 j (fun q => q.elim (fun h => absurd h.1 (nn rfl)) (fun q => q.elim (fun h => absurd h.1 (nn rfl)) (fun q => q.elim (fun h => absurd h.1 (nn rfl)) (fun q => q.elim (fun h => absurd h.1 (pn0 hA rfl)) (fun q => q.elim (fun h => absurd h.1 (pn0 hA rfl)) (fun q => q.elim (fun h => absurd h.1 (pn0 hA rfl)) (fun q => q.elim (fun h => absurd h.1 (pn0 hA rfl)) (fun q => q.elim (fun h => absurd h (pn hA rfl rfl)) (fun q => q.elim (fun h => absurd h (pn hA rfl rfl)) (fun q => q.elim (fun h => absurd h (pn hA rfl rfl)) (fun q => q.elim (fun h => absurd h.1 (pn0 hA rfl)) (fun q => q.elim (fun h => absurd h.1 (pn0 hA rfl)) (fun q => q.elim (fun h => absurd h (pn hA rfl rfl)) (fun h => absurd h.1 (pn hA rfl rfl)))))))))))))))).trans (hF j)) rfl (fun c_27 hI_28 hF_29 hz_30 => ?_))
    refine bk_inl ?_
    refine q_aload_n rfl rfl ?_
    have kn_31 : Hid (c_27 1 1 = e1) := (hF_29 1 1 (fun h => absurd h.2 (ni rfl))).trans (hid kn_22)
    refine v_gi (z := 1) (v := e1) rfl rfl rfl (by decide) rfl rfl (hid kn_31) ?_
    by_cases h_32 : (nx F e1 a) ≥ e1
    · refine v_ic_ge_t (t := 22) rfl (by decide) (by omega) ?_
      refine q_iconst rfl ?_
      refine v_zret rfl rfl (by decide) ?_
      refine bk_inl ?_
      refine v_if_eq_t (t := 85) rfl (by decide) (by decide) ?_
      refine q_vret rfl rfl ?_
      intro hE_33
      have hW : Wd P Q P P c_27 = Wd P Q P P m9 := (Prod.mk.inj (Prod.mk.inj hE_33).2).1
      have kn_34 : Hid (c_27 1 4 = 0) := (hF_29 1 4 (fun h => absurd h.2 (ni rfl))).trans (hc_0)
      have h_35 := ir_1_4 hJ9
      have h_36 : m9 1 4 = 0 := wd_fv (z := 4) 4 rfl hW rfl rfl rfl rfl (by decide) (hid kn_34) ⟨by omega, by omega⟩ ⟨by omega, by omega⟩
      have h_37 := ir_1_2 hJ9
      have h_38 : m9 1 2 = (nx F e1 a) := wd_fv (z := 2) 2 rfl hW rfl rfl rfl rfl (by decide) (hz_30) ⟨by omega, by omega⟩ ⟨by omega, by omega⟩
      have kn_39 : Hid (c_27 1 5 = (-1)) := (hF_29 1 5 (fun h => absurd h.2 (ni rfl))).trans (hc_2)
      have h_40 := ir_1_5 hJ9
      have h_41 : m9 1 5 = (-1) := wd_fv (z := 5) 5 rfl hW rfl rfl rfl rfl (by decide) (hid kn_39) ⟨by omega, by omega⟩ ⟨by omega, by omega⟩
      have kn_42 : Hid (c_27 A 0 = jr) := (hF_29 A 0 (fun h => absurd h.1 (np0 hA rfl))).trans (hg_jr)
      have h_43 := ir_p0_0 hJ9 hA
      have h_44 : m9 A 0 = jr := wd_fv (z := 0) 0 rfl hW (ck_p0 hA) (ck_p0 hA) rfl rfl (by omega) (hid kn_42) ⟨by omega, by omega⟩ ⟨by omega, by omega⟩
      have kn_45 : Hid (c_27 A 1 = st) := (hF_29 A 1 (fun h => absurd h.1 (np0 hA rfl))).trans (hg_st)
      have h_46 := ir_p0_1 hJ9 hA
      have h_47 : m9 A 1 = st := wd_fv (z := 1) 1 rfl hW (ck_p0 hA) (ck_p0 hA) rfl rfl (by omega) (hid kn_45) ⟨by omega, by omega⟩ ⟨by omega, by omega⟩
      have kn_48 : Hid (c_27 A 2 = si) := (hF_29 A 2 (fun h => absurd h.1 (np0 hA rfl))).trans (hg_si)
      have h_49 := ir_p0_2 hJ9 hA
      have h_50 : m9 A 2 = si := wd_fv (z := 2) 2 rfl hW (ck_p0 hA) (ck_p0 hA) rfl rfl (by omega) (hid kn_48) ⟨by omega, by omega⟩ ⟨by omega, by omega⟩
      have kn_51 : Hid (c_27 A 3 = du) := (hF_29 A 3 (fun h => absurd h.1 (np0 hA rfl))).trans (hg_du)
      have h_52 := ir_p0_3 hJ9 hA
      have h_53 : m9 A 3 = du := wd_fv (z := 3) 3 rfl hW (ck_p0 hA) (ck_p0 hA) rfl rfl (by omega) (hid kn_51) ⟨by omega, by omega⟩ ⟨by omega, by omega⟩
      refine q_aload_n rfl rfl ?_
      refine v_cv rfl rfl rfl rfl (by decide) ⟨⟨rfl, rfl⟩, by decide, rfl⟩ (Nat.le_of_ble_eq_true rfl) (Nat.le_of_ble_eq_true rfl) ?_
      refine q_aload_n rfl rfl ?_
      refine v_gi (z := 5) (v := (-1)) rfl rfl rfl (by decide) rfl rfl (hc_1) ?_
      refine q_iconst rfl ?_
      refine v_ic_ne_f (t := 12) rfl (by decide) (by decide) ?_
      refine q_iconst rfl ?_
      refine q_goto (t := 13) rfl (by decide) ?_
      refine v_zret rfl rfl (by decide) ?_
      refine bk_inl ?_
      refine v_if_eq_f (t := 136) rfl (by decide) (by decide) ?_
      refine q_aload_n rfl rfl ?_
      refine v_cv rfl rfl rfl rfl (by decide) ⟨⟨rfl, rfl⟩, by decide, rfl⟩ (Nat.le_of_ble_eq_true rfl) (Nat.le_of_ble_eq_true rfl) ?_
      refine q_aload_n rfl rfl ?_
      have kn_54 : Hid (c2 41 3 = e1) := (hFc 41 3 (fun q => q.elim (fun h => absurd h.2 (ni rfl)) (fun q => q.elim (fun h => absurd h.2 (ni rfl)) (fun q => q.elim (fun h => absurd h.2 (ni rfl)) (fun q => q.elim (fun h => absurd h.2 (ni rfl)) (fun q => q.elim (fun h => absurd h.2 (ni rfl)) (fun q => q.elim (fun h => absurd h.2 (ni rfl)) (fun q => q.elim (fun h => absurd h.2 (ni rfl)) (fun q => q.elim (fun h => absurd h (nn rfl)) (fun q => q.elim (fun h => absurd h (nn rfl)) (fun h => absurd h (nn rfl)))))))))))).trans (hr_e1)
      have h_55 : -2147483648 ≤ (H (nx F e1 a)) ∧ (H (nx F e1 a)) ≤ 2147483647 := by rw [← hH (nx F e1 a)]; exact ir_43 hI (nx F e1 a)
      have h_56 : (nx F e1 a) < 600 → (H (nx F e1 a)) = (F (nx F e1 a)) % 256 ∧ -128 ≤ (F (nx F e1 a)) ∧ (F (nx F e1 a)) ≤ 127 := fun q => hU (nx F e1 a) (by omega) q
      have h_57 := hb_or (b := H) (e := e1) (r := (nx F e1 a))
      have h_58 := hb_bd (b := H) (e := e1) (r := (nx F e1 a)) (lo := -2147483648) (hi := 2147483647) ⟨by omega, by omega⟩ (by decide)
      refine v_cv rfl rfl rfl rfl (by decide) ⟨⟨rfl, rfl⟩, by decide, rfl⟩ (Nat.le_of_ble_eq_true rfl) (Nat.le_of_ble_eq_true rfl) (f_154 (e1 := e1) (a9 := a) (B := H) (r8 := (nx F e1 a)) (r := (hb H e1 (nx F e1 a))) hI2 ((hid kn_54)) ((hr_a)) (fun j => (hFc 43 j (fun q => q.elim (fun h => absurd h.1 (nn rfl)) (fun q => q.elim (fun h => absurd h.1 (nn rfl)) (fun q => q.elim (fun h => absurd h.1 (nn rfl)) (fun q => q.elim (fun h => absurd h.1 (nn rfl)) (fun q => q.elim (fun h => absurd h.1 (nn rfl)) (fun q => q.elim (fun h => absurd h.1 (nn rfl)) (fun q => q.elim (fun h => absurd h.1 (nn rfl)) (fun q => q.elim (fun h => absurd h (nn rfl)) (fun q => q.elim (fun h => absurd h (nn rfl)) (fun h => absurd h (nn rfl)))))))))))).trans (hH j)) ((nx_tr hU (by omega) (by omega)).trans (rfl)) rfl (fun c_59 hI_60 hF_61 h_62 => ?_))
      refine bk_inl ?_
      refine q_pop rfl rfl ?_
      refine q_aload_n rfl rfl ?_
      refine v_gi (z := 4) (v := (nx F e1 a)) rfl rfl rfl (by decide) rfl rfl (h_62) ?_
      refine q_aload_n rfl rfl ?_
      have kn_63 : Hid (c_59 41 3 = e1) := (hF_61 41 3 (fun h => absurd h.2 (ni rfl))).trans (hid kn_54)
      refine v_gi (z := 3) (v := e1) rfl rfl rfl (by decide) rfl rfl (hid kn_63) ?_
      refine v_ic_ge_t (t := 20) rfl (by decide) (by omega) ?_
      refine q_iconst rfl ?_
      refine v_zret rfl rfl (by decide) ?_
      refine bk_inl ?_
      refine v_if_eq_t (t := 136) rfl (by decide) (by decide) ?_
      refine Wp_ls [(0, .ref 41), (1, vi a1)] (lsub_cons rfl (lsub_cons rfl lsub_nil)) ?_
      have kn_64 : Hid (c_59 41 5 = (-1)) := (hF_61 41 5 (fun h => absurd h.2 (ni rfl))).trans (hc_1)
      have h_65 : c_59 41 5 = (-1) := (hid kn_64)
      have h_66 : c_59 41 4 = (nx F e1 a) := (h_62)
      have h_67 := ir_41_6 hI2
      have kn_68 : Hid (c_59 41 6 = c2 41 6) := hF_61 41 6 (fun h => absurd h.2 (ni rfl))
      have h_69 : c_59 41 6 = c2 41 6 := (hid kn_68)
      have kn_70 : Hid (c_59 41 16 = jr) := (hF_61 41 16 (fun h => absurd h.2 (ni rfl))).trans (hr_jr)
      have h_71 : c_59 41 16 = jr := (hid kn_70)
      have kn_72 : Hid (c_59 41 17 = st) := (hF_61 41 17 (fun h => absurd h.2 (ni rfl))).trans (hr_st)
      have h_73 : c_59 41 17 = st := (hid kn_72)
      have kn_74 : Hid (c_59 41 18 = si) := (hF_61 41 18 (fun h => absurd h.2 (ni rfl))).trans (hr_si)
      have h_75 : c_59 41 18 = si := (hid kn_74)
      have kn_76 : Hid (c_59 41 19 = du) := (hF_61 41 19 (fun h => absurd h.2 (ni rfl))).trans (hr_du)
      have h_77 : c_59 41 19 = du := (hid kn_76)
      have h_78 : c_59 41 16 = jr := (hid kn_70)
      have hA_79 : Ae (4 * jr) (c_27 (A + 1)) (c_59 44) := ae_fr hrl0 (fun j => hF_29 (A + 1) j (fun h => absurd h.1 (np hA rfl rfl))) (fun j => hF_61 44 j (fun h => absurd h.1 (nn rfl)))
      have hA_80 : Ae (4 * jr) (m9 (A + 1)) (c_59 44) := ae_l hA_79 (fun j h1 h2 => wd_av hW (ck_p1 hA) (ck_p1 hA) (by decide) (by omega) ⟨h1, by omega⟩ rfl (wide (ir_p1 hI_28 hA j) (by decide) (by decide)) (wide (ir_p1 hJ9 hA j) (by decide) (by decide)))
      have h_81 : c_59 41 17 = st := (hid kn_72)
      have hA_82 : Ae (3 * st) (c_27 (A + 2)) (c_59 45) := ae_fr hrl1 (fun j => hF_29 (A + 2) j (fun h => absurd h.1 (np hA rfl rfl))) (fun j => hF_61 45 j (fun h => absurd h.1 (nn rfl)))
      have hA_83 : Ae (3 * st) (m9 (A + 2)) (c_59 45) := ae_l hA_82 (fun j h1 h2 => wd_av hW (ck_p2 hA) (ck_p2 hA) (by decide) (by omega) ⟨h1, by omega⟩ rfl (wide (ir_p2 hI_28 hA j) (by decide) (by decide)) (wide (ir_p2 hJ9 hA j) (by decide) (by decide)))
      have h_84 : c_59 41 18 = si := (hid kn_74)
      have hA_85 : Ae si (c_27 (A + 3)) (c_59 46) := ae_fr hrl2 (fun j => hF_29 (A + 3) j (fun h => absurd h.1 (np hA rfl rfl))) (fun j => hF_61 46 j (fun h => absurd h.1 (nn rfl)))
      have hA_86 : Ae si (m9 (A + 3)) (c_59 46) := ae_l hA_85 (fun j h1 h2 => wd_av hW (ck_p3 hA) (ck_p3 hA) (by decide) (by omega) ⟨h1, by omega⟩ rfl (wide (ir_p3 hI_28 hA j) (by decide) (by decide)) (wide (ir_p3 hJ9 hA j) (by decide) (by decide)))
      exact K c_59  hI_60 (fun a j hm => (hF_61 a j (fun h => hm (Or.inl h))).trans (hFc a j (fun q => q.elim (fun h => hm (Or.inl h)) (fun q => q.elim (fun h => hm (Or.inr (Or.inl h))) (fun q => q.elim (fun h => hm (Or.inr (Or.inr (Or.inl h)))) (fun q => q.elim (fun h => hm (Or.inr (Or.inr (Or.inr (Or.inl h))))) (fun q => q.elim (fun h => hm (Or.inr (Or.inr (Or.inr (Or.inr (Or.inl h)))))) (fun q => q.elim (fun h => hm (Or.inr (Or.inr (Or.inr (Or.inr (Or.inr (Or.inl h))))))) (fun q => q.elim (fun h => hm (Or.inr (Or.inr (Or.inr (Or.inr (Or.inr (Or.inr (Or.inl h)))))))) (fun q => q.elim (fun h => hm (Or.inr (Or.inr (Or.inr (Or.inr (Or.inr (Or.inr (Or.inr (Or.inl h))))))))) (fun q => q.elim (fun h => hm (Or.inr (Or.inr (Or.inr (Or.inr (Or.inr (Or.inr (Or.inr (Or.inr (Or.inl h)))))))))) (fun h => hm (Or.inr (Or.inr (Or.inr (Or.inr (Or.inr (Or.inr (Or.inr (Or.inr (Or.inr h))))))))))))))))))))) (by unfold Rt; omega) (by omega) (fun _ => ae_le hA_80 (by omega)) (fun _ => ae_le hA_83 (by omega)) (fun _ => ae_le hA_86 (by omega))
    · refine v_ic_ge_f (t := 22) rfl (by decide) (by omega) ?_
      refine q_iconst rfl ?_
      refine q_goto (t := 23) rfl (by decide) ?_
      refine v_zret rfl rfl (by decide) ?_
      refine bk_inl ?_
      refine v_if_eq_f (t := 85) rfl (by decide) (by decide) ?_
      refine q_aload_n rfl rfl ?_
      refine v_cv rfl rfl rfl rfl (by decide) ⟨⟨rfl, rfl⟩, by decide, rfl⟩ (Nat.le_of_ble_eq_true rfl) (Nat.le_of_ble_eq_true rfl) (f_3 (e1 := e1) (a9 := (nx F e1 a)) (B := F) (r8 := (nx F e1 a)) hI_28 ((hid kn_31)) ((hz_30)) (fun j => ((hF_29 2 j (fun h => absurd h.1 (nn rfl))).trans (hFm 2 j (fun q => q.elim (fun h => absurd h.1 (nn rfl)) (fun q => q.elim (fun h => absurd h.1 (nn rfl)) (fun q => q.elim (fun h => absurd h.1 (nn rfl)) (fun q => q.elim (fun h => absurd h.1 (pn0 hA rfl)) (fun q => q.elim (fun h => absurd h.1 (pn0 hA rfl)) (fun q => q.elim (fun h => absurd h.1 (pn0 hA rfl)) (fun q => q.elim (fun h => absurd h.1 (pn0 hA rfl)) (fun q => q.elim (fun h => absurd h (pn hA rfl rfl)) (fun q => q.elim (fun h => absurd h (pn hA rfl rfl)) (fun q => q.elim (fun h => absurd h (pn hA rfl rfl)) (fun q => q.elim (fun h => absurd h.1 (pn0 hA rfl)) (fun q => q.elim (fun h => absurd h.1 (pn0 hA rfl)) (fun q => q.elim (fun h => absurd h (pn hA rfl rfl)) (fun h => absurd h.1 (pn hA rfl rfl))))))))))))))))).trans (hF j)) (nx_z (by omega)) (fun c_87 hI_88 hF_89 hz_90 => ?_))
      refine bk_inl ?_
      refine q_istore_n rfl (by decide) ?_
      refine q_aload_n rfl rfl ?_
      refine q_ldc_s rfl rfl rfl (by decide) ?_
      have kn_91 : Hid (c_87 1 1 = e1) := (hF_89 1 1 (fun h => absurd h.2 (ni rfl))).trans (hid kn_31)
      have kn_92 : Hid (c_27 1 4 = 0) := (hF_29 1 4 (fun h => absurd h.2 (ni rfl))).trans (hc_0)
      have kn_93 : Hid (c_87 1 4 = 0) := (hF_89 1 4 (fun h => absurd h.2 (ni rfl))).trans (hid kn_92)
      have kn_94 : Hid (c_27 1 5 = (-1)) := (hF_29 1 5 (fun h => absurd h.2 (ni rfl))).trans (hc_2)
      have kn_95 : Hid (c_87 1 5 = (-1)) := (hF_89 1 5 (fun h => absurd h.2 (ni rfl))).trans (hid kn_94)
      have h_96 := ln_bd (b := F) (e := e1) (a := (nx F e1 a))
      refine v_cv rfl rfl rfl rfl (by decide) ⟨⟨rfl, rfl⟩, by decide, rfl⟩ (Nat.le_of_ble_eq_true rfl) (Nat.le_of_ble_eq_true rfl) (f_10_8 (e1 := e1) (a9 := (nx F e1 a)) (f9 := 0) (p9 := (-1)) (B := F) (r8 := (nx F e1 a)) (L8 := (ln F e1 (nx F e1 a))) (W8 := (wd8_0 F (nx F e1 a) (ln F e1 (nx F e1 a)))) hI_88 ((hid kn_91)) ((hz_90)) ((hid kn_93)) ((hid kn_95)) (fun j => ((hF_89 2 j (fun h => absurd h.1 (nn rfl))).trans ((hF_29 2 j (fun h => absurd h.1 (nn rfl))).trans (hFm 2 j (fun q => q.elim (fun h => absurd h.1 (nn rfl)) (fun q => q.elim (fun h => absurd h.1 (nn rfl)) (fun q => q.elim (fun h => absurd h.1 (nn rfl)) (fun q => q.elim (fun h => absurd h.1 (pn0 hA rfl)) (fun q => q.elim (fun h => absurd h.1 (pn0 hA rfl)) (fun q => q.elim (fun h => absurd h.1 (pn0 hA rfl)) (fun q => q.elim (fun h => absurd h.1 (pn0 hA rfl)) (fun q => q.elim (fun h => absurd h (pn hA rfl rfl)) (fun q => q.elim (fun h => absurd h (pn hA rfl rfl)) (fun q => q.elim (fun h => absurd h (pn hA rfl rfl)) (fun q => q.elim (fun h => absurd h.1 (pn0 hA rfl)) (fun q => q.elim (fun h => absurd h.1 (pn0 hA rfl)) (fun q => q.elim (fun h => absurd h (pn hA rfl rfl)) (fun h => absurd h.1 (pn hA rfl rfl)))))))))))))))))).trans (hF j)) (nx_z (by omega)) rfl rfl (fun c_97 hI_98 hF_99 h_100 hz_101 hz_102 hz_103 => by exfalso; omega) (fun c_104 hI_105 hF_106 h_107 h_108 hz_109 hz_110 hz_111 => ?_) (fun c_112 hI_113 hF_114 h_115 h_116 hz_117 hz_118 hz_119 => ?_))
      · skip
        refine bk_inl ?_
        refine q_istore rfl (by decide) ?_
        refine q_iload rfl rfl ?_
        refine q_iconst rfl ?_
        refine v_ic_eq_t (t := 59) rfl (by decide) (by decide) ?_
        refine q_aload_n rfl rfl ?_
        refine v_cv rfl rfl rfl rfl (by decide) ⟨⟨rfl, rfl⟩, by decide, rfl⟩ (Nat.le_of_ble_eq_true rfl) (Nat.le_of_ble_eq_true rfl) ?_
        refine q_aload_n rfl rfl ?_
        refine v_gi (z := 4) (v := 1) rfl rfl rfl (by decide) rfl rfl (hz_110) ?_
        refine v_if_ne_t (t := 11) rfl (by decide) (by decide) ?_
        refine q_iconst rfl ?_
        refine v_zret rfl rfl (by decide) ?_
        refine bk_inl ?_
        refine v_if_eq_t (t := 73) rfl (by decide) (by decide) ?_
        refine q_aload_n rfl rfl ?_
        refine q_ldc_s rfl rfl rfl (by decide) ?_
        refine v_cv rfl rfl rfl rfl (by decide) ⟨⟨rfl, rfl⟩, by decide, rfl⟩ (Nat.le_of_ble_eq_true rfl) (Nat.le_of_ble_eq_true rfl) ?_
        refine q_aload_n rfl rfl ?_
        refine v_cv rfl rfl rfl rfl (by decide) ⟨⟨rfl, rfl⟩, by decide, rfl⟩ (Nat.le_of_ble_eq_true rfl) (Nat.le_of_ble_eq_true rfl) ?_
        refine q_aload_n rfl rfl ?_
        refine v_gi (z := 4) (v := 1) rfl rfl rfl (by decide) rfl rfl (hz_110) ?_
        refine v_if_ne_t (t := 11) rfl (by decide) (by decide) ?_
        refine q_iconst rfl ?_
        refine v_zret rfl rfl (by decide) ?_
        refine bk_inl ?_
        refine v_if_eq_t (t := 25) rfl (by decide) (by decide) ?_
        refine q_vret rfl rfl ?_
        refine bk_inl ?_
        refine v_iinc (v := v + 1) rfl rfl (by decide) (by omega) ?_
        refine q_goto (t := 6) rfl (by decide) ?_
        refine q_iload_n rfl rfl ?_
        refine v_bip rfl (by decide) ?_
        by_cases h_120 : v + 1 > 60
        · refine v_ic_gt_t (t := 85) rfl (by decide) (by omega) ?_
          refine q_vret rfl rfl ?_
          intro hE_121
          have hW : Wd P Q P P c_104 = Wd P Q P P m9 := (Prod.mk.inj (Prod.mk.inj hE_121).2).1
          have h_122 := ir_1_4 hJ9
          have h_123 : m9 1 4 = 1 := wd_fv (z := 4) 4 rfl hW rfl rfl rfl rfl (by decide) (hz_110) ⟨by omega, by omega⟩ ⟨by omega, by omega⟩
          have h_124 := ir_1_2 hJ9
          have h_125 : m9 1 2 = (nx F e1 a) := wd_fv (z := 2) 2 rfl hW rfl rfl rfl rfl (by decide) (hz_109) ⟨by omega, by omega⟩ ⟨by omega, by omega⟩
          have h_126 := ir_1_5 hJ9
          have h_127 : m9 1 5 = (nx F e1 a) := wd_fv (z := 5) 5 rfl hW rfl rfl rfl rfl (by decide) (hz_111) ⟨by omega, by omega⟩ ⟨by omega, by omega⟩
          have kn_128 : Hid (c_27 A 0 = jr) := (hF_29 A 0 (fun h => absurd h.1 (np0 hA rfl))).trans (hg_jr)
          have kn_129 : Hid (c_87 A 0 = jr) := (hF_89 A 0 (fun h => absurd h.1 (np0 hA rfl))).trans (hid kn_128)
          have kn_130 : Hid (c_104 A 0 = jr) := (hF_106 A 0 (fun q => q.elim (fun h => absurd h.1 (np0 hA rfl)) (fun q => q.elim (fun h => absurd h.1 (np0 hA rfl)) (fun h => absurd h.1 (np0 hA rfl))))).trans (hid kn_129)
          have h_131 := ir_p0_0 hJ9 hA
          have h_132 : m9 A 0 = jr := wd_fv (z := 0) 0 rfl hW (ck_p0 hA) (ck_p0 hA) rfl rfl (by omega) (hid kn_130) ⟨by omega, by omega⟩ ⟨by omega, by omega⟩
          have kn_133 : Hid (c_27 A 1 = st) := (hF_29 A 1 (fun h => absurd h.1 (np0 hA rfl))).trans (hg_st)
          have kn_134 : Hid (c_87 A 1 = st) := (hF_89 A 1 (fun h => absurd h.1 (np0 hA rfl))).trans (hid kn_133)
          have kn_135 : Hid (c_104 A 1 = st) := (hF_106 A 1 (fun q => q.elim (fun h => absurd h.1 (np0 hA rfl)) (fun q => q.elim (fun h => absurd h.1 (np0 hA rfl)) (fun h => absurd h.1 (np0 hA rfl))))).trans (hid kn_134)
          have h_136 := ir_p0_1 hJ9 hA
          have h_137 : m9 A 1 = st := wd_fv (z := 1) 1 rfl hW (ck_p0 hA) (ck_p0 hA) rfl rfl (by omega) (hid kn_135) ⟨by omega, by omega⟩ ⟨by omega, by omega⟩
          have kn_138 : Hid (c_27 A 2 = si) := (hF_29 A 2 (fun h => absurd h.1 (np0 hA rfl))).trans (hg_si)
          have kn_139 : Hid (c_87 A 2 = si) := (hF_89 A 2 (fun h => absurd h.1 (np0 hA rfl))).trans (hid kn_138)
          have kn_140 : Hid (c_104 A 2 = si) := (hF_106 A 2 (fun q => q.elim (fun h => absurd h.1 (np0 hA rfl)) (fun q => q.elim (fun h => absurd h.1 (np0 hA rfl)) (fun h => absurd h.1 (np0 hA rfl))))).trans (hid kn_139)
          have h_141 := ir_p0_2 hJ9 hA
          have h_142 : m9 A 2 = si := wd_fv (z := 2) 2 rfl hW (ck_p0 hA) (ck_p0 hA) rfl rfl (by omega) (hid kn_140) ⟨by omega, by omega⟩ ⟨by omega, by omega⟩
          have kn_143 : Hid (c_27 A 3 = du) := (hF_29 A 3 (fun h => absurd h.1 (np0 hA rfl))).trans (hg_du)
          have kn_144 : Hid (c_87 A 3 = du) := (hF_89 A 3 (fun h => absurd h.1 (np0 hA rfl))).trans (hid kn_143)
          have kn_145 : Hid (c_104 A 3 = du) := (hF_106 A 3 (fun q => q.elim (fun h => absurd h.1 (np0 hA rfl)) (fun q => q.elim (fun h => absurd h.1 (np0 hA rfl)) (fun h => absurd h.1 (np0 hA rfl))))).trans (hid kn_144)
          have h_146 := ir_p0_3 hJ9 hA
          have h_147 : m9 A 3 = du := wd_fv (z := 3) 3 rfl hW (ck_p0 hA) (ck_p0 hA) rfl rfl (by omega) (hid kn_145) ⟨by omega, by omega⟩ ⟨by omega, by omega⟩
          refine q_aload_n rfl rfl ?_
          refine v_cv rfl rfl rfl rfl (by decide) ⟨⟨rfl, rfl⟩, by decide, rfl⟩ (Nat.le_of_ble_eq_true rfl) (Nat.le_of_ble_eq_true rfl) ?_
          refine q_aload_n rfl rfl ?_
          refine v_gi (z := 5) (v := (-1)) rfl rfl rfl (by decide) rfl rfl (hc_1) ?_
          refine q_iconst rfl ?_
          refine v_ic_ne_f (t := 12) rfl (by decide) (by decide) ?_
          refine q_iconst rfl ?_
          refine q_goto (t := 13) rfl (by decide) ?_
          refine v_zret rfl rfl (by decide) ?_
          refine bk_inl ?_
          refine v_if_eq_f (t := 136) rfl (by decide) (by decide) ?_
          refine q_aload_n rfl rfl ?_
          refine v_cv rfl rfl rfl rfl (by decide) ⟨⟨rfl, rfl⟩, by decide, rfl⟩ (Nat.le_of_ble_eq_true rfl) (Nat.le_of_ble_eq_true rfl) ?_
          refine q_aload_n rfl rfl ?_
          have kn_148 : Hid (c2 41 3 = e1) := (hFc 41 3 (fun q => q.elim (fun h => absurd h.2 (ni rfl)) (fun q => q.elim (fun h => absurd h.2 (ni rfl)) (fun q => q.elim (fun h => absurd h.2 (ni rfl)) (fun q => q.elim (fun h => absurd h.2 (ni rfl)) (fun q => q.elim (fun h => absurd h.2 (ni rfl)) (fun q => q.elim (fun h => absurd h.2 (ni rfl)) (fun q => q.elim (fun h => absurd h.2 (ni rfl)) (fun q => q.elim (fun h => absurd h (nn rfl)) (fun q => q.elim (fun h => absurd h (nn rfl)) (fun h => absurd h (nn rfl)))))))))))).trans (hr_e1)
          have h_149 : -2147483648 ≤ (H (nx F e1 a)) ∧ (H (nx F e1 a)) ≤ 2147483647 := by rw [← hH (nx F e1 a)]; exact ir_43 hI (nx F e1 a)
          have h_150 := hU (nx F e1 a) (by omega) (by omega)
          have h_151 := hb_or (b := H) (e := e1) (r := (nx F e1 a))
          have h_152 := hb_bd (b := H) (e := e1) (r := (nx F e1 a)) (lo := -2147483648) (hi := 2147483647) ⟨by omega, by omega⟩ (by decide)
          refine v_cv rfl rfl rfl rfl (by decide) ⟨⟨rfl, rfl⟩, by decide, rfl⟩ (Nat.le_of_ble_eq_true rfl) (Nat.le_of_ble_eq_true rfl) (f_154 (e1 := e1) (a9 := a) (B := H) (r8 := (nx F e1 a)) (r := (hb H e1 (nx F e1 a))) hI2 ((hid kn_148)) ((hr_a)) (fun j => (hFc 43 j (fun q => q.elim (fun h => absurd h.1 (nn rfl)) (fun q => q.elim (fun h => absurd h.1 (nn rfl)) (fun q => q.elim (fun h => absurd h.1 (nn rfl)) (fun q => q.elim (fun h => absurd h.1 (nn rfl)) (fun q => q.elim (fun h => absurd h.1 (nn rfl)) (fun q => q.elim (fun h => absurd h.1 (nn rfl)) (fun q => q.elim (fun h => absurd h.1 (nn rfl)) (fun q => q.elim (fun h => absurd h (nn rfl)) (fun q => q.elim (fun h => absurd h (nn rfl)) (fun h => absurd h (nn rfl)))))))))))).trans (hH j)) ((nx_tr hU (by omega) (by omega)).trans (rfl)) rfl (fun c_153 hI_154 hF_155 h_156 => ?_))
          refine bk_inl ?_
          refine q_pop rfl rfl ?_
          refine q_aload_n rfl rfl ?_
          refine v_gi (z := 4) (v := (nx F e1 a)) rfl rfl rfl (by decide) rfl rfl (h_156) ?_
          refine q_aload_n rfl rfl ?_
          have kn_157 : Hid (c_153 41 3 = e1) := (hF_155 41 3 (fun h => absurd h.2 (ni rfl))).trans (hid kn_148)
          refine v_gi (z := 3) (v := e1) rfl rfl rfl (by decide) rfl rfl (hid kn_157) ?_
          refine v_ic_ge_f (t := 20) rfl (by decide) (by omega) ?_
          refine q_iconst rfl ?_
          refine q_goto (t := 21) rfl (by decide) ?_
          refine v_zret rfl rfl (by decide) ?_
          refine bk_inl ?_
          refine v_if_eq_f (t := 136) rfl (by decide) (by decide) ?_
          refine q_aload_n rfl rfl ?_
          have h_158 := wv_bd (b := F) (r := (nx F e1 a)) (l := (ln F e1 (nx F e1 a))) (fun j h1 h2 => ⟨(ln_in (e := e1) (a := (nx F e1 a)) h1 (by omega)).1, (ln_in (e := e1) (a := (nx F e1 a)) h1 (by omega)).2.1⟩)
          have hw_159 : Hid (¬ wv F (nx F e1 a) (ln F e1 (nx F e1 a)) = 10290 ∧ ¬ wv F (nx F e1 a) (ln F e1 (nx F e1 a)) = 20594117 ∧ ¬ wv F (nx F e1 a) (ln F e1 (nx F e1 a)) = 20223685 ∧ ¬ wv F (nx F e1 a) (ln F e1 (nx F e1 a)) = 153204) := wr8_4 (b := F) (r := (nx F e1 a)) (l := (ln F e1 (nx F e1 a))) (by omega) (fun j h1 h2 => ⟨(ln_in (e := e1) (a := (nx F e1 a)) h1 (by omega)).1, (ln_in (e := e1) (a := (nx F e1 a)) h1 (by omega)).2.1⟩) (by omega)
          refine v_cv rfl rfl rfl rfl (by decide) ⟨⟨rfl, rfl⟩, by decide, rfl⟩ (Nat.le_of_ble_eq_true rfl) (Nat.le_of_ble_eq_true rfl) (f_157 (e1 := e1) (a9 := (nx F e1 a)) (B := H) (r8 := (nx F e1 a)) (L8 := (ln F e1 (nx F e1 a))) (W8 := (wv F (nx F e1 a) (ln F e1 (nx F e1 a)))) hI_154 ((hid kn_157)) ((h_156)) (fun j => ((hF_155 43 j (fun h => absurd h.1 (nn rfl))).trans (hFc 43 j (fun q => q.elim (fun h => absurd h.1 (nn rfl)) (fun q => q.elim (fun h => absurd h.1 (nn rfl)) (fun q => q.elim (fun h => absurd h.1 (nn rfl)) (fun q => q.elim (fun h => absurd h.1 (nn rfl)) (fun q => q.elim (fun h => absurd h.1 (nn rfl)) (fun q => q.elim (fun h => absurd h.1 (nn rfl)) (fun q => q.elim (fun h => absurd h.1 (nn rfl)) (fun q => q.elim (fun h => absurd h (nn rfl)) (fun q => q.elim (fun h => absurd h (nn rfl)) (fun h => absurd h (nn rfl))))))))))))).trans (hH j)) ((nx_tr hU (by omega) (by omega)).trans ((nx_z (by omega)))) ((ln_tr hU (by omega) (by omega)).trans (rfl)) ((wv_tr hU (by omega) (by omega) (fun j h1 h2 => ⟨(ln_in (e := e1) (a := (nx F e1 a)) h1 (by omega)).1, (ln_in (e := e1) (a := (nx F e1 a)) h1 (by omega)).2.1⟩)).trans (rfl)) (fun c_160 hI_161 hF_162 hz_163 => ?_))
          refine bk_inl ?_
          refine q_istore_n rfl (by decide) ?_
          refine q_iload_n rfl rfl ?_
          refine q_call rfl rfl rfl rfl ?_
          refine q_iload_n rfl rfl ?_
          refine q_ldc_s rfl rfl rfl (by decide) ?_
          refine q_call rfl rfl rfl rfl (s_158_16 ?_)
          refine bk_inl ?_
          refine v_ic_eq_f (t := 36) rfl (by decide) ⟨(hid hw_159).1, ⟨by omega, by omega⟩, by decide, by decide⟩ ?_
          refine q_iload_n rfl rfl ?_
          refine q_ldc_s rfl rfl rfl (by decide) ?_
          refine q_call rfl rfl rfl rfl (s_158_17 ?_)
          refine bk_inl ?_
          refine v_ic_eq_f (t := 36) rfl (by decide) ⟨(hid hw_159).2.1, ⟨by omega, by omega⟩, by decide, by decide⟩ ?_
          refine q_iload_n rfl rfl ?_
          refine q_ldc_s rfl rfl rfl (by decide) ?_
          refine q_call rfl rfl rfl rfl (s_158_18 ?_)
          refine bk_inl ?_
          refine v_ic_eq_f (t := 36) rfl (by decide) ⟨(hid hw_159).2.2.1, ⟨by omega, by omega⟩, by decide, by decide⟩ ?_
          refine q_iload_n rfl rfl ?_
          refine q_ldc_s rfl rfl rfl (by decide) ?_
          refine q_call rfl rfl rfl rfl (s_158_19 ?_)
          refine bk_inl ?_
          refine v_ic_ne_t (t := 40) rfl (by decide) ⟨(hid hw_159).2.2.2, ⟨by omega, by omega⟩, by decide, by decide⟩ ?_
          refine q_iconst rfl ?_
          refine v_zret rfl rfl (by decide) ?_
          refine bk_inl ?_
          refine v_if_ne_f (t := 82) rfl (by decide) (by decide) ?_
          refine q_aload_n rfl rfl ?_
          refine q_iconst rfl ?_
          refine q_aload_n rfl rfl ?_
          refine v_gi (z := 4) (v := (nx F e1 a)) rfl rfl rfl (by decide) rfl rfl (hz_163) ?_
          refine v_cv rfl rfl rfl rfl (by decide) ⟨⟨rfl, rfl⟩, by decide, rfl⟩ (Nat.le_of_ble_eq_true rfl) (Nat.le_of_ble_eq_true rfl) ?_
          refine q_aload_n rfl rfl ?_
          have kn_164 : Hid (c_153 41 5 = (-1)) := (hF_155 41 5 (fun h => absurd h.2 (ni rfl))).trans (hc_1)
          have kn_165 : Hid (c_160 41 5 = (-1)) := (hF_162 41 5 (fun h => absurd h.2 (ni rfl))).trans (hid kn_164)
          refine v_gi (z := 5) (v := (-1)) rfl rfl rfl (by decide) rfl rfl (hid kn_165) ?_
          refine q_iconst rfl ?_
          refine v_ic_eq_t (t := 9) rfl (by decide) (by decide) ?_
          refine q_aload_n rfl rfl ?_
          refine q_iload_n rfl rfl ?_
          refine v_pi (z := 5) rfl rfl rfl (by decide) rfl rfl rfl (by decide) ?_
          refine q_aload_n rfl rfl ?_
          refine q_iload_n rfl rfl ?_
          refine v_pi (z := 6) rfl rfl rfl (by decide) rfl rfl rfl (by decide) ?_
          refine q_vret rfl rfl ?_
          refine bk_inl ?_
          refine q_goto (t := 105) rfl (by decide) ?_
          refine q_aload_n rfl rfl ?_
          refine v_cv rfl rfl rfl rfl (by decide) ⟨⟨rfl, rfl⟩, by decide, rfl⟩ (Nat.le_of_ble_eq_true rfl) (Nat.le_of_ble_eq_true rfl) ?_
          refine q_aload_n rfl rfl ?_
          refine v_gi (z := 5) (v := (nx F e1 a)) rfl rfl rfl (by decide) rfl rfl ((up_n (by decide)).trans (up_e rfl)) ?_
          refine q_iconst rfl ?_
          refine v_ic_ne_t (t := 12) rfl (by decide) (by omega) ?_
          refine q_iconst rfl ?_
          refine v_zret rfl rfl (by decide) ?_
          refine bk_inl ?_
          refine v_if_ne_f (t := 115) rfl (by decide) (by decide) ?_
          refine q_goto (t := 136) rfl (by decide) ?_
          refine Wp_ls [(0, .ref 41), (1, vi a1)] (lsub_cons rfl (lsub_cons rfl lsub_nil)) ?_
          have hI_166 := iw_41_5 (v := (nx F e1 a)) hI_161 ⟨by omega, by omega⟩
          have hI_167 := iw_41_6 (v := 1) hI_166 ⟨by decide, by decide⟩
          have h_168 : (up (up c_160 41 5 (nx F e1 a)) 41 6 1) 41 5 = (nx F e1 a) := ((up_n (by decide)).trans (up_e rfl))
          have h_169 : (up (up c_160 41 5 (nx F e1 a)) 41 6 1) 41 4 = (nx F e1 a) := ((up_n (by decide)).trans ((up_n (by decide)).trans (hz_163)))
          have h_170 : (up (up c_160 41 5 (nx F e1 a)) 41 6 1) 41 6 = 1 := (up_e rfl)
          have kn_171 : Hid (c_153 41 16 = jr) := (hF_155 41 16 (fun h => absurd h.2 (ni rfl))).trans (hr_jr)
          have kn_172 : Hid (c_160 41 16 = jr) := (hF_162 41 16 (fun h => absurd h.2 (ni rfl))).trans (hid kn_171)
          have h_173 : (up (up c_160 41 5 (nx F e1 a)) 41 6 1) 41 16 = jr := ((up_n (by decide)).trans ((up_n (by decide)).trans (hid kn_172)))
          have kn_174 : Hid (c_153 41 17 = st) := (hF_155 41 17 (fun h => absurd h.2 (ni rfl))).trans (hr_st)
          have kn_175 : Hid (c_160 41 17 = st) := (hF_162 41 17 (fun h => absurd h.2 (ni rfl))).trans (hid kn_174)
          have h_176 : (up (up c_160 41 5 (nx F e1 a)) 41 6 1) 41 17 = st := ((up_n (by decide)).trans ((up_n (by decide)).trans (hid kn_175)))
          have kn_177 : Hid (c_153 41 18 = si) := (hF_155 41 18 (fun h => absurd h.2 (ni rfl))).trans (hr_si)
          have kn_178 : Hid (c_160 41 18 = si) := (hF_162 41 18 (fun h => absurd h.2 (ni rfl))).trans (hid kn_177)
          have h_179 : (up (up c_160 41 5 (nx F e1 a)) 41 6 1) 41 18 = si := ((up_n (by decide)).trans ((up_n (by decide)).trans (hid kn_178)))
          have kn_180 : Hid (c_153 41 19 = du) := (hF_155 41 19 (fun h => absurd h.2 (ni rfl))).trans (hr_du)
          have kn_181 : Hid (c_160 41 19 = du) := (hF_162 41 19 (fun h => absurd h.2 (ni rfl))).trans (hid kn_180)
          have h_182 : (up (up c_160 41 5 (nx F e1 a)) 41 6 1) 41 19 = du := ((up_n (by decide)).trans ((up_n (by decide)).trans (hid kn_181)))
          have h_183 : (up (up c_160 41 5 (nx F e1 a)) 41 6 1) 41 16 = jr := ((up_n (by decide)).trans ((up_n (by decide)).trans (hid kn_172)))
          have h_184 : (up (up c_160 41 5 (nx F e1 a)) 41 6 1) 41 17 = st := ((up_n (by decide)).trans ((up_n (by decide)).trans (hid kn_175)))
          have h_185 : (up (up c_160 41 5 (nx F e1 a)) 41 6 1) 41 18 = si := ((up_n (by decide)).trans ((up_n (by decide)).trans (hid kn_178)))
          exact K (up (up c_160 41 5 (nx F e1 a)) 41 6 1)  hI_167 (fun a j hm => (up_b (Decidable.or_iff_not_imp_left.mpr (fun h1 h2 => hm (Or.inr (Or.inr (Or.inl ⟨Decidable.not_not.mp h1, h2⟩)))))).trans ((up_b (Decidable.or_iff_not_imp_left.mpr (fun h1 h2 => hm (Or.inr (Or.inl ⟨Decidable.not_not.mp h1, h2⟩))))).trans ((hF_162 a j (fun h => hm (Or.inl h))).trans ((hF_155 a j (fun h => hm (Or.inl h))).trans (hFc a j (fun q => q.elim (fun h => hm (Or.inl h)) (fun q => q.elim (fun h => hm (Or.inr (Or.inl h))) (fun q => q.elim (fun h => hm (Or.inr (Or.inr (Or.inl h)))) (fun q => q.elim (fun h => hm (Or.inr (Or.inr (Or.inr (Or.inl h))))) (fun q => q.elim (fun h => hm (Or.inr (Or.inr (Or.inr (Or.inr (Or.inl h)))))) (fun q => q.elim (fun h => hm (Or.inr (Or.inr (Or.inr (Or.inr (Or.inr (Or.inl h))))))) (fun q => q.elim (fun h => hm (Or.inr (Or.inr (Or.inr (Or.inr (Or.inr (Or.inr (Or.inl h)))))))) (fun q => q.elim (fun h => hm (Or.inr (Or.inr (Or.inr (Or.inr (Or.inr (Or.inr (Or.inr (Or.inl h))))))))) (fun q => q.elim (fun h => hm (Or.inr (Or.inr (Or.inr (Or.inr (Or.inr (Or.inr (Or.inr (Or.inr (Or.inl h)))))))))) (fun h => hm (Or.inr (Or.inr (Or.inr (Or.inr (Or.inr (Or.inr (Or.inr (Or.inr (Or.inr h)))))))))))))))))))))))) (by unfold Rt; omega) (by omega) (fun hz => absurd hz (by omega)) (fun hz => absurd hz (by omega)) (fun hz => absurd hz (by omega))
        · refine v_ic_gt_f (t := 85) rfl (by decide) (by omega) ?_
          refine q_aload_n rfl rfl ?_
          refine v_cv rfl rfl rfl rfl (by decide) ⟨⟨rfl, rfl⟩, by decide, rfl⟩ (Nat.le_of_ble_eq_true rfl) (Nat.le_of_ble_eq_true rfl) ?_
          refine q_aload_n rfl rfl ?_
          refine v_cv rfl rfl rfl rfl (by decide) ⟨⟨rfl, rfl⟩, by decide, rfl⟩ (Nat.le_of_ble_eq_true rfl) (Nat.le_of_ble_eq_true rfl) ?_
          refine q_aload_n rfl rfl ?_
          refine v_gi (z := 4) (v := 1) rfl rfl rfl (by decide) rfl rfl (hz_110) ?_
          refine v_if_ne_t (t := 11) rfl (by decide) (by decide) ?_
          refine q_iconst rfl ?_
          refine v_zret rfl rfl (by decide) ?_
          refine bk_inl ?_
          refine v_if_eq_t (t := 22) rfl (by decide) (by decide) ?_
          refine q_iconst rfl ?_
          refine v_zret rfl rfl (by decide) ?_
          refine bk_inl ?_
          refine v_if_eq_t (t := 85) rfl (by decide) (by decide) ?_
          refine q_vret rfl rfl ?_
          intro hE_186
          have hW : Wd P Q P P c_104 = Wd P Q P P m9 := (Prod.mk.inj (Prod.mk.inj hE_186).2).1
          have h_187 := ir_1_4 hJ9
          have h_188 : m9 1 4 = 1 := wd_fv (z := 4) 4 rfl hW rfl rfl rfl rfl (by decide) (hz_110) ⟨by omega, by omega⟩ ⟨by omega, by omega⟩
          have h_189 := ir_1_2 hJ9
          have h_190 : m9 1 2 = (nx F e1 a) := wd_fv (z := 2) 2 rfl hW rfl rfl rfl rfl (by decide) (hz_109) ⟨by omega, by omega⟩ ⟨by omega, by omega⟩
          have h_191 := ir_1_5 hJ9
          have h_192 : m9 1 5 = (nx F e1 a) := wd_fv (z := 5) 5 rfl hW rfl rfl rfl rfl (by decide) (hz_111) ⟨by omega, by omega⟩ ⟨by omega, by omega⟩
          have kn_193 : Hid (c_27 A 0 = jr) := (hF_29 A 0 (fun h => absurd h.1 (np0 hA rfl))).trans (hg_jr)
          have kn_194 : Hid (c_87 A 0 = jr) := (hF_89 A 0 (fun h => absurd h.1 (np0 hA rfl))).trans (hid kn_193)
          have kn_195 : Hid (c_104 A 0 = jr) := (hF_106 A 0 (fun q => q.elim (fun h => absurd h.1 (np0 hA rfl)) (fun q => q.elim (fun h => absurd h.1 (np0 hA rfl)) (fun h => absurd h.1 (np0 hA rfl))))).trans (hid kn_194)
          have h_196 := ir_p0_0 hJ9 hA
          have h_197 : m9 A 0 = jr := wd_fv (z := 0) 0 rfl hW (ck_p0 hA) (ck_p0 hA) rfl rfl (by omega) (hid kn_195) ⟨by omega, by omega⟩ ⟨by omega, by omega⟩
          have kn_198 : Hid (c_27 A 1 = st) := (hF_29 A 1 (fun h => absurd h.1 (np0 hA rfl))).trans (hg_st)
          have kn_199 : Hid (c_87 A 1 = st) := (hF_89 A 1 (fun h => absurd h.1 (np0 hA rfl))).trans (hid kn_198)
          have kn_200 : Hid (c_104 A 1 = st) := (hF_106 A 1 (fun q => q.elim (fun h => absurd h.1 (np0 hA rfl)) (fun q => q.elim (fun h => absurd h.1 (np0 hA rfl)) (fun h => absurd h.1 (np0 hA rfl))))).trans (hid kn_199)
          have h_201 := ir_p0_1 hJ9 hA
          have h_202 : m9 A 1 = st := wd_fv (z := 1) 1 rfl hW (ck_p0 hA) (ck_p0 hA) rfl rfl (by omega) (hid kn_200) ⟨by omega, by omega⟩ ⟨by omega, by omega⟩
          have kn_203 : Hid (c_27 A 2 = si) := (hF_29 A 2 (fun h => absurd h.1 (np0 hA rfl))).trans (hg_si)
          have kn_204 : Hid (c_87 A 2 = si) := (hF_89 A 2 (fun h => absurd h.1 (np0 hA rfl))).trans (hid kn_203)
          have kn_205 : Hid (c_104 A 2 = si) := (hF_106 A 2 (fun q => q.elim (fun h => absurd h.1 (np0 hA rfl)) (fun q => q.elim (fun h => absurd h.1 (np0 hA rfl)) (fun h => absurd h.1 (np0 hA rfl))))).trans (hid kn_204)
          have h_206 := ir_p0_2 hJ9 hA
          have h_207 : m9 A 2 = si := wd_fv (z := 2) 2 rfl hW (ck_p0 hA) (ck_p0 hA) rfl rfl (by omega) (hid kn_205) ⟨by omega, by omega⟩ ⟨by omega, by omega⟩
          have kn_208 : Hid (c_27 A 3 = du) := (hF_29 A 3 (fun h => absurd h.1 (np0 hA rfl))).trans (hg_du)
          have kn_209 : Hid (c_87 A 3 = du) := (hF_89 A 3 (fun h => absurd h.1 (np0 hA rfl))).trans (hid kn_208)
          have kn_210 : Hid (c_104 A 3 = du) := (hF_106 A 3 (fun q => q.elim (fun h => absurd h.1 (np0 hA rfl)) (fun q => q.elim (fun h => absurd h.1 (np0 hA rfl)) (fun h => absurd h.1 (np0 hA rfl))))).trans (hid kn_209)
          have h_211 := ir_p0_3 hJ9 hA
          have h_212 : m9 A 3 = du := wd_fv (z := 3) 3 rfl hW (ck_p0 hA) (ck_p0 hA) rfl rfl (by omega) (hid kn_210) ⟨by omega, by omega⟩ ⟨by omega, by omega⟩
          refine q_aload_n rfl rfl ?_
          refine v_cv rfl rfl rfl rfl (by decide) ⟨⟨rfl, rfl⟩, by decide, rfl⟩ (Nat.le_of_ble_eq_true rfl) (Nat.le_of_ble_eq_true rfl) ?_
          refine q_aload_n rfl rfl ?_
          refine v_gi (z := 5) (v := (-1)) rfl rfl rfl (by decide) rfl rfl (hc_1) ?_
          refine q_iconst rfl ?_
          refine v_ic_ne_f (t := 12) rfl (by decide) (by decide) ?_
          refine q_iconst rfl ?_
          refine q_goto (t := 13) rfl (by decide) ?_
          refine v_zret rfl rfl (by decide) ?_
          refine bk_inl ?_
          refine v_if_eq_f (t := 136) rfl (by decide) (by decide) ?_
          refine q_aload_n rfl rfl ?_
          refine v_cv rfl rfl rfl rfl (by decide) ⟨⟨rfl, rfl⟩, by decide, rfl⟩ (Nat.le_of_ble_eq_true rfl) (Nat.le_of_ble_eq_true rfl) ?_
          refine q_aload_n rfl rfl ?_
          have kn_213 : Hid (c2 41 3 = e1) := (hFc 41 3 (fun q => q.elim (fun h => absurd h.2 (ni rfl)) (fun q => q.elim (fun h => absurd h.2 (ni rfl)) (fun q => q.elim (fun h => absurd h.2 (ni rfl)) (fun q => q.elim (fun h => absurd h.2 (ni rfl)) (fun q => q.elim (fun h => absurd h.2 (ni rfl)) (fun q => q.elim (fun h => absurd h.2 (ni rfl)) (fun q => q.elim (fun h => absurd h.2 (ni rfl)) (fun q => q.elim (fun h => absurd h (nn rfl)) (fun q => q.elim (fun h => absurd h (nn rfl)) (fun h => absurd h (nn rfl)))))))))))).trans (hr_e1)
          have h_214 : -2147483648 ≤ (H (nx F e1 a)) ∧ (H (nx F e1 a)) ≤ 2147483647 := by rw [← hH (nx F e1 a)]; exact ir_43 hI (nx F e1 a)
          have h_215 := hU (nx F e1 a) (by omega) (by omega)
          have h_216 := hb_or (b := H) (e := e1) (r := (nx F e1 a))
          have h_217 := hb_bd (b := H) (e := e1) (r := (nx F e1 a)) (lo := -2147483648) (hi := 2147483647) ⟨by omega, by omega⟩ (by decide)
          refine v_cv rfl rfl rfl rfl (by decide) ⟨⟨rfl, rfl⟩, by decide, rfl⟩ (Nat.le_of_ble_eq_true rfl) (Nat.le_of_ble_eq_true rfl) (f_154 (e1 := e1) (a9 := a) (B := H) (r8 := (nx F e1 a)) (r := (hb H e1 (nx F e1 a))) hI2 ((hid kn_213)) ((hr_a)) (fun j => (hFc 43 j (fun q => q.elim (fun h => absurd h.1 (nn rfl)) (fun q => q.elim (fun h => absurd h.1 (nn rfl)) (fun q => q.elim (fun h => absurd h.1 (nn rfl)) (fun q => q.elim (fun h => absurd h.1 (nn rfl)) (fun q => q.elim (fun h => absurd h.1 (nn rfl)) (fun q => q.elim (fun h => absurd h.1 (nn rfl)) (fun q => q.elim (fun h => absurd h.1 (nn rfl)) (fun q => q.elim (fun h => absurd h (nn rfl)) (fun q => q.elim (fun h => absurd h (nn rfl)) (fun h => absurd h (nn rfl)))))))))))).trans (hH j)) ((nx_tr hU (by omega) (by omega)).trans (rfl)) rfl (fun c_218 hI_219 hF_220 h_221 => ?_))
          refine bk_inl ?_
          refine q_pop rfl rfl ?_
          refine q_aload_n rfl rfl ?_
          refine v_gi (z := 4) (v := (nx F e1 a)) rfl rfl rfl (by decide) rfl rfl (h_221) ?_
          refine q_aload_n rfl rfl ?_
          have kn_222 : Hid (c_218 41 3 = e1) := (hF_220 41 3 (fun h => absurd h.2 (ni rfl))).trans (hid kn_213)
          refine v_gi (z := 3) (v := e1) rfl rfl rfl (by decide) rfl rfl (hid kn_222) ?_
          refine v_ic_ge_f (t := 20) rfl (by decide) (by omega) ?_
          refine q_iconst rfl ?_
          refine q_goto (t := 21) rfl (by decide) ?_
          refine v_zret rfl rfl (by decide) ?_
          refine bk_inl ?_
          refine v_if_eq_f (t := 136) rfl (by decide) (by decide) ?_
          refine q_aload_n rfl rfl ?_
          have h_223 := wv_bd (b := F) (r := (nx F e1 a)) (l := (ln F e1 (nx F e1 a))) (fun j h1 h2 => ⟨(ln_in (e := e1) (a := (nx F e1 a)) h1 (by omega)).1, (ln_in (e := e1) (a := (nx F e1 a)) h1 (by omega)).2.1⟩)
          have hw_224 : Hid (¬ wv F (nx F e1 a) (ln F e1 (nx F e1 a)) = 10290 ∧ ¬ wv F (nx F e1 a) (ln F e1 (nx F e1 a)) = 20594117 ∧ ¬ wv F (nx F e1 a) (ln F e1 (nx F e1 a)) = 20223685 ∧ ¬ wv F (nx F e1 a) (ln F e1 (nx F e1 a)) = 153204) := wr8_4 (b := F) (r := (nx F e1 a)) (l := (ln F e1 (nx F e1 a))) (by omega) (fun j h1 h2 => ⟨(ln_in (e := e1) (a := (nx F e1 a)) h1 (by omega)).1, (ln_in (e := e1) (a := (nx F e1 a)) h1 (by omega)).2.1⟩) (by omega)
          refine v_cv rfl rfl rfl rfl (by decide) ⟨⟨rfl, rfl⟩, by decide, rfl⟩ (Nat.le_of_ble_eq_true rfl) (Nat.le_of_ble_eq_true rfl) (f_157 (e1 := e1) (a9 := (nx F e1 a)) (B := H) (r8 := (nx F e1 a)) (L8 := (ln F e1 (nx F e1 a))) (W8 := (wv F (nx F e1 a) (ln F e1 (nx F e1 a)))) hI_219 ((hid kn_222)) ((h_221)) (fun j => ((hF_220 43 j (fun h => absurd h.1 (nn rfl))).trans (hFc 43 j (fun q => q.elim (fun h => absurd h.1 (nn rfl)) (fun q => q.elim (fun h => absurd h.1 (nn rfl)) (fun q => q.elim (fun h => absurd h.1 (nn rfl)) (fun q => q.elim (fun h => absurd h.1 (nn rfl)) (fun q => q.elim (fun h => absurd h.1 (nn rfl)) (fun q => q.elim (fun h => absurd h.1 (nn rfl)) (fun q => q.elim (fun h => absurd h.1 (nn rfl)) (fun q => q.elim (fun h => absurd h (nn rfl)) (fun q => q.elim (fun h => absurd h (nn rfl)) (fun h => absurd h (nn rfl))))))))))))).trans (hH j)) ((nx_tr hU (by omega) (by omega)).trans ((nx_z (by omega)))) ((ln_tr hU (by omega) (by omega)).trans (rfl)) ((wv_tr hU (by omega) (by omega) (fun j h1 h2 => ⟨(ln_in (e := e1) (a := (nx F e1 a)) h1 (by omega)).1, (ln_in (e := e1) (a := (nx F e1 a)) h1 (by omega)).2.1⟩)).trans (rfl)) (fun c_225 hI_226 hF_227 hz_228 => ?_))
          refine bk_inl ?_
          refine q_istore_n rfl (by decide) ?_
          refine q_iload_n rfl rfl ?_
          refine q_call rfl rfl rfl rfl ?_
          refine q_iload_n rfl rfl ?_
          refine q_ldc_s rfl rfl rfl (by decide) ?_
          refine q_call rfl rfl rfl rfl (s_158_16 ?_)
          refine bk_inl ?_
          refine v_ic_eq_f (t := 36) rfl (by decide) ⟨(hid hw_224).1, ⟨by omega, by omega⟩, by decide, by decide⟩ ?_
          refine q_iload_n rfl rfl ?_
          refine q_ldc_s rfl rfl rfl (by decide) ?_
          refine q_call rfl rfl rfl rfl (s_158_17 ?_)
          refine bk_inl ?_
          refine v_ic_eq_f (t := 36) rfl (by decide) ⟨(hid hw_224).2.1, ⟨by omega, by omega⟩, by decide, by decide⟩ ?_
          refine q_iload_n rfl rfl ?_
          refine q_ldc_s rfl rfl rfl (by decide) ?_
          refine q_call rfl rfl rfl rfl (s_158_18 ?_)
          refine bk_inl ?_
          refine v_ic_eq_f (t := 36) rfl (by decide) ⟨(hid hw_224).2.2.1, ⟨by omega, by omega⟩, by decide, by decide⟩ ?_
          refine q_iload_n rfl rfl ?_
          refine q_ldc_s rfl rfl rfl (by decide) ?_
          refine q_call rfl rfl rfl rfl (s_158_19 ?_)
          refine bk_inl ?_
          refine v_ic_ne_t (t := 40) rfl (by decide) ⟨(hid hw_224).2.2.2, ⟨by omega, by omega⟩, by decide, by decide⟩ ?_
          refine q_iconst rfl ?_
          refine v_zret rfl rfl (by decide) ?_
          refine bk_inl ?_
          refine v_if_ne_f (t := 82) rfl (by decide) (by decide) ?_
          refine q_aload_n rfl rfl ?_
          refine q_iconst rfl ?_
          refine q_aload_n rfl rfl ?_
          refine v_gi (z := 4) (v := (nx F e1 a)) rfl rfl rfl (by decide) rfl rfl (hz_228) ?_
          refine v_cv rfl rfl rfl rfl (by decide) ⟨⟨rfl, rfl⟩, by decide, rfl⟩ (Nat.le_of_ble_eq_true rfl) (Nat.le_of_ble_eq_true rfl) ?_
          refine q_aload_n rfl rfl ?_
          have kn_229 : Hid (c_218 41 5 = (-1)) := (hF_220 41 5 (fun h => absurd h.2 (ni rfl))).trans (hc_1)
          have kn_230 : Hid (c_225 41 5 = (-1)) := (hF_227 41 5 (fun h => absurd h.2 (ni rfl))).trans (hid kn_229)
          refine v_gi (z := 5) (v := (-1)) rfl rfl rfl (by decide) rfl rfl (hid kn_230) ?_
          refine q_iconst rfl ?_
          refine v_ic_eq_t (t := 9) rfl (by decide) (by decide) ?_
          refine q_aload_n rfl rfl ?_
          refine q_iload_n rfl rfl ?_
          refine v_pi (z := 5) rfl rfl rfl (by decide) rfl rfl rfl (by decide) ?_
          refine q_aload_n rfl rfl ?_
          refine q_iload_n rfl rfl ?_
          refine v_pi (z := 6) rfl rfl rfl (by decide) rfl rfl rfl (by decide) ?_
          refine q_vret rfl rfl ?_
          refine bk_inl ?_
          refine q_goto (t := 105) rfl (by decide) ?_
          refine q_aload_n rfl rfl ?_
          refine v_cv rfl rfl rfl rfl (by decide) ⟨⟨rfl, rfl⟩, by decide, rfl⟩ (Nat.le_of_ble_eq_true rfl) (Nat.le_of_ble_eq_true rfl) ?_
          refine q_aload_n rfl rfl ?_
          refine v_gi (z := 5) (v := (nx F e1 a)) rfl rfl rfl (by decide) rfl rfl ((up_n (by decide)).trans (up_e rfl)) ?_
          refine q_iconst rfl ?_
          refine v_ic_ne_t (t := 12) rfl (by decide) (by omega) ?_
          refine q_iconst rfl ?_
          refine v_zret rfl rfl (by decide) ?_
          refine bk_inl ?_
          refine v_if_ne_f (t := 115) rfl (by decide) (by decide) ?_
          refine q_goto (t := 136) rfl (by decide) ?_
          refine Wp_ls [(0, .ref 41), (1, vi a1)] (lsub_cons rfl (lsub_cons rfl lsub_nil)) ?_
          have hI_231 := iw_41_5 (v := (nx F e1 a)) hI_226 ⟨by omega, by omega⟩
          have hI_232 := iw_41_6 (v := 1) hI_231 ⟨by decide, by decide⟩
          have h_233 : (up (up c_225 41 5 (nx F e1 a)) 41 6 1) 41 5 = (nx F e1 a) := ((up_n (by decide)).trans (up_e rfl))
          have h_234 : (up (up c_225 41 5 (nx F e1 a)) 41 6 1) 41 4 = (nx F e1 a) := ((up_n (by decide)).trans ((up_n (by decide)).trans (hz_228)))
          have h_235 : (up (up c_225 41 5 (nx F e1 a)) 41 6 1) 41 6 = 1 := (up_e rfl)
          have kn_236 : Hid (c_218 41 16 = jr) := (hF_220 41 16 (fun h => absurd h.2 (ni rfl))).trans (hr_jr)
          have kn_237 : Hid (c_225 41 16 = jr) := (hF_227 41 16 (fun h => absurd h.2 (ni rfl))).trans (hid kn_236)
          have h_238 : (up (up c_225 41 5 (nx F e1 a)) 41 6 1) 41 16 = jr := ((up_n (by decide)).trans ((up_n (by decide)).trans (hid kn_237)))
          have kn_239 : Hid (c_218 41 17 = st) := (hF_220 41 17 (fun h => absurd h.2 (ni rfl))).trans (hr_st)
          have kn_240 : Hid (c_225 41 17 = st) := (hF_227 41 17 (fun h => absurd h.2 (ni rfl))).trans (hid kn_239)
          have h_241 : (up (up c_225 41 5 (nx F e1 a)) 41 6 1) 41 17 = st := ((up_n (by decide)).trans ((up_n (by decide)).trans (hid kn_240)))
          have kn_242 : Hid (c_218 41 18 = si) := (hF_220 41 18 (fun h => absurd h.2 (ni rfl))).trans (hr_si)
          have kn_243 : Hid (c_225 41 18 = si) := (hF_227 41 18 (fun h => absurd h.2 (ni rfl))).trans (hid kn_242)
          have h_244 : (up (up c_225 41 5 (nx F e1 a)) 41 6 1) 41 18 = si := ((up_n (by decide)).trans ((up_n (by decide)).trans (hid kn_243)))
          have kn_245 : Hid (c_218 41 19 = du) := (hF_220 41 19 (fun h => absurd h.2 (ni rfl))).trans (hr_du)
          have kn_246 : Hid (c_225 41 19 = du) := (hF_227 41 19 (fun h => absurd h.2 (ni rfl))).trans (hid kn_245)
          have h_247 : (up (up c_225 41 5 (nx F e1 a)) 41 6 1) 41 19 = du := ((up_n (by decide)).trans ((up_n (by decide)).trans (hid kn_246)))
          have h_248 : (up (up c_225 41 5 (nx F e1 a)) 41 6 1) 41 16 = jr := ((up_n (by decide)).trans ((up_n (by decide)).trans (hid kn_237)))
          have h_249 : (up (up c_225 41 5 (nx F e1 a)) 41 6 1) 41 17 = st := ((up_n (by decide)).trans ((up_n (by decide)).trans (hid kn_240)))
          have h_250 : (up (up c_225 41 5 (nx F e1 a)) 41 6 1) 41 18 = si := ((up_n (by decide)).trans ((up_n (by decide)).trans (hid kn_243)))
          exact K (up (up c_225 41 5 (nx F e1 a)) 41 6 1)  hI_232 (fun a j hm => (up_b (Decidable.or_iff_not_imp_left.mpr (fun h1 h2 => hm (Or.inr (Or.inr (Or.inl ⟨Decidable.not_not.mp h1, h2⟩)))))).trans ((up_b (Decidable.or_iff_not_imp_left.mpr (fun h1 h2 => hm (Or.inr (Or.inl ⟨Decidable.not_not.mp h1, h2⟩))))).trans ((hF_227 a j (fun h => hm (Or.inl h))).trans ((hF_220 a j (fun h => hm (Or.inl h))).trans (hFc a j (fun q => q.elim (fun h => hm (Or.inl h)) (fun q => q.elim (fun h => hm (Or.inr (Or.inl h))) (fun q => q.elim (fun h => hm (Or.inr (Or.inr (Or.inl h)))) (fun q => q.elim (fun h => hm (Or.inr (Or.inr (Or.inr (Or.inl h))))) (fun q => q.elim (fun h => hm (Or.inr (Or.inr (Or.inr (Or.inr (Or.inl h)))))) (fun q => q.elim (fun h => hm (Or.inr (Or.inr (Or.inr (Or.inr (Or.inr (Or.inl h))))))) (fun q => q.elim (fun h => hm (Or.inr (Or.inr (Or.inr (Or.inr (Or.inr (Or.inr (Or.inl h)))))))) (fun q => q.elim (fun h => hm (Or.inr (Or.inr (Or.inr (Or.inr (Or.inr (Or.inr (Or.inr (Or.inl h))))))))) (fun q => q.elim (fun h => hm (Or.inr (Or.inr (Or.inr (Or.inr (Or.inr (Or.inr (Or.inr (Or.inr (Or.inl h)))))))))) (fun h => hm (Or.inr (Or.inr (Or.inr (Or.inr (Or.inr (Or.inr (Or.inr (Or.inr (Or.inr h)))))))))))))))))))))))) (by unfold Rt; omega) (by omega) (fun hz => absurd hz (by omega)) (fun hz => absurd hz (by omega)) (fun hz => absurd hz (by omega))
      · skip
        refine bk_inl ?_
        refine q_istore rfl (by decide) ?_
        refine q_iload rfl rfl ?_
        refine q_iconst rfl ?_
        refine v_ic_eq_f (t := 59) rfl (by decide) (by omega) ?_
        refine q_iload_n rfl rfl ?_
        refine v_bip rfl (by decide) ?_
        by_cases h_251 : v = 60
        · refine v_ic_eq_t (t := 53) rfl (by decide) (by omega) ?_
          refine q_aload_n rfl rfl ?_
          refine q_iconst rfl ?_
          refine q_iload_n rfl rfl ?_
          refine v_cv rfl rfl rfl rfl (by decide) ⟨⟨rfl, rfl⟩, by decide, rfl⟩ (Nat.le_of_ble_eq_true rfl) (Nat.le_of_ble_eq_true rfl) ?_
          refine q_aload_n rfl rfl ?_
          refine v_gi (z := 4) (v := 0) rfl rfl rfl (by decide) rfl rfl (hz_118) ?_
          refine v_if_ne_f (t := 17) rfl (by decide) (by decide) ?_
          refine q_aload_n rfl rfl ?_
          refine q_iload_n rfl rfl ?_
          refine v_pi (z := 4) rfl rfl rfl (by decide) rfl rfl rfl (by decide) ?_
          refine q_aload_n rfl rfl ?_
          refine q_iload_n rfl rfl ?_
          refine v_pi (z := 5) rfl rfl rfl (by decide) rfl rfl rfl (by decide) ?_
          refine q_vret rfl rfl ?_
          refine bk_inl ?_
          refine q_aload_n rfl rfl ?_
          refine v_cv rfl rfl rfl rfl (by decide) ⟨⟨rfl, rfl⟩, by decide, rfl⟩ (Nat.le_of_ble_eq_true rfl) (Nat.le_of_ble_eq_true rfl) ?_
          refine q_aload_n rfl rfl ?_
          refine v_gi (z := 4) (v := 3) rfl rfl rfl (by decide) rfl rfl ((up_n (by decide)).trans (up_e rfl)) ?_
          refine v_if_ne_t (t := 11) rfl (by decide) (by decide) ?_
          refine q_iconst rfl ?_
          refine v_zret rfl rfl (by decide) ?_
          refine bk_inl ?_
          refine v_if_eq_t (t := 73) rfl (by decide) (by decide) ?_
          refine q_aload_n rfl rfl ?_
          refine q_ldc_s rfl rfl rfl (by decide) ?_
          refine v_cv rfl rfl rfl rfl (by decide) ⟨⟨rfl, rfl⟩, by decide, rfl⟩ (Nat.le_of_ble_eq_true rfl) (Nat.le_of_ble_eq_true rfl) ?_
          refine q_aload_n rfl rfl ?_
          refine v_cv rfl rfl rfl rfl (by decide) ⟨⟨rfl, rfl⟩, by decide, rfl⟩ (Nat.le_of_ble_eq_true rfl) (Nat.le_of_ble_eq_true rfl) ?_
          refine q_aload_n rfl rfl ?_
          refine v_gi (z := 4) (v := 3) rfl rfl rfl (by decide) rfl rfl ((up_n (by decide)).trans (up_e rfl)) ?_
          refine v_if_ne_t (t := 11) rfl (by decide) (by decide) ?_
          refine q_iconst rfl ?_
          refine v_zret rfl rfl (by decide) ?_
          refine bk_inl ?_
          refine v_if_eq_t (t := 25) rfl (by decide) (by decide) ?_
          refine q_vret rfl rfl ?_
          refine bk_inl ?_
          refine v_iinc (v := v + 1) rfl rfl (by decide) (by omega) ?_
          refine q_goto (t := 6) rfl (by decide) ?_
          refine q_iload_n rfl rfl ?_
          refine v_bip rfl (by decide) ?_
          refine v_ic_gt_t (t := 85) rfl (by decide) (by omega) ?_
          refine q_vret rfl rfl ?_
          have hI_252 := iw_1_4 (v := 3) hI_113 ⟨by decide, by decide⟩
          have hI_253 := iw_1_5 (v := (nx F e1 a)) hI_252 ⟨by omega, by omega⟩
          intro hE_254
          have hW : Wd P Q P P (up (up c_112 1 4 3) 1 5 (nx F e1 a)) = Wd P Q P P m9 := (Prod.mk.inj (Prod.mk.inj hE_254).2).1
          have h_255 := ir_1_4 hJ9
          have h_256 : m9 1 4 = 3 := wd_fv (z := 4) 4 rfl hW rfl rfl rfl rfl (by decide) ((up_n (by decide)).trans (up_e rfl)) ⟨by omega, by omega⟩ ⟨by omega, by omega⟩
          have h_257 := ir_1_2 hJ9
          have h_258 : m9 1 2 = (ln F e1 (nx F e1 a)) := wd_fv (z := 2) 2 rfl hW rfl rfl rfl rfl (by decide) ((up_n (by decide)).trans ((up_n (by decide)).trans (hz_117))) ⟨by omega, by omega⟩ ⟨by omega, by omega⟩
          have h_259 := ir_1_5 hJ9
          have h_260 : m9 1 5 = (nx F e1 a) := wd_fv (z := 5) 5 rfl hW rfl rfl rfl rfl (by decide) (up_e rfl) ⟨by omega, by omega⟩ ⟨by omega, by omega⟩
          have kn_261 : Hid (c_27 A 0 = jr) := (hF_29 A 0 (fun h => absurd h.1 (np0 hA rfl))).trans (hg_jr)
          have kn_262 : Hid (c_87 A 0 = jr) := (hF_89 A 0 (fun h => absurd h.1 (np0 hA rfl))).trans (hid kn_261)
          have kn_263 : Hid (c_112 A 0 = jr) := (hF_114 A 0 (fun q => q.elim (fun h => absurd h.1 (np0 hA rfl)) (fun q => q.elim (fun h => absurd h.1 (np0 hA rfl)) (fun h => absurd h.1 (np0 hA rfl))))).trans (hid kn_262)
          have h_264 := ir_p0_0 hJ9 hA
          have h_265 : m9 A 0 = jr := wd_fv (z := 0) 0 rfl hW (ck_p0 hA) (ck_p0 hA) rfl rfl (by omega) ((up_c (np0 hA rfl)).trans ((up_c (np0 hA rfl)).trans (hid kn_263))) ⟨by omega, by omega⟩ ⟨by omega, by omega⟩
          have kn_266 : Hid (c_27 A 1 = st) := (hF_29 A 1 (fun h => absurd h.1 (np0 hA rfl))).trans (hg_st)
          have kn_267 : Hid (c_87 A 1 = st) := (hF_89 A 1 (fun h => absurd h.1 (np0 hA rfl))).trans (hid kn_266)
          have kn_268 : Hid (c_112 A 1 = st) := (hF_114 A 1 (fun q => q.elim (fun h => absurd h.1 (np0 hA rfl)) (fun q => q.elim (fun h => absurd h.1 (np0 hA rfl)) (fun h => absurd h.1 (np0 hA rfl))))).trans (hid kn_267)
          have h_269 := ir_p0_1 hJ9 hA
          have h_270 : m9 A 1 = st := wd_fv (z := 1) 1 rfl hW (ck_p0 hA) (ck_p0 hA) rfl rfl (by omega) ((up_c (np0 hA rfl)).trans ((up_c (np0 hA rfl)).trans (hid kn_268))) ⟨by omega, by omega⟩ ⟨by omega, by omega⟩
          have kn_271 : Hid (c_27 A 2 = si) := (hF_29 A 2 (fun h => absurd h.1 (np0 hA rfl))).trans (hg_si)
          have kn_272 : Hid (c_87 A 2 = si) := (hF_89 A 2 (fun h => absurd h.1 (np0 hA rfl))).trans (hid kn_271)
          have kn_273 : Hid (c_112 A 2 = si) := (hF_114 A 2 (fun q => q.elim (fun h => absurd h.1 (np0 hA rfl)) (fun q => q.elim (fun h => absurd h.1 (np0 hA rfl)) (fun h => absurd h.1 (np0 hA rfl))))).trans (hid kn_272)
          have h_274 := ir_p0_2 hJ9 hA
          have h_275 : m9 A 2 = si := wd_fv (z := 2) 2 rfl hW (ck_p0 hA) (ck_p0 hA) rfl rfl (by omega) ((up_c (np0 hA rfl)).trans ((up_c (np0 hA rfl)).trans (hid kn_273))) ⟨by omega, by omega⟩ ⟨by omega, by omega⟩
          have kn_276 : Hid (c_27 A 3 = du) := (hF_29 A 3 (fun h => absurd h.1 (np0 hA rfl))).trans (hg_du)
          have kn_277 : Hid (c_87 A 3 = du) := (hF_89 A 3 (fun h => absurd h.1 (np0 hA rfl))).trans (hid kn_276)
          have kn_278 : Hid (c_112 A 3 = du) := (hF_114 A 3 (fun q => q.elim (fun h => absurd h.1 (np0 hA rfl)) (fun q => q.elim (fun h => absurd h.1 (np0 hA rfl)) (fun h => absurd h.1 (np0 hA rfl))))).trans (hid kn_277)
          have h_279 := ir_p0_3 hJ9 hA
          have h_280 : m9 A 3 = du := wd_fv (z := 3) 3 rfl hW (ck_p0 hA) (ck_p0 hA) rfl rfl (by omega) ((up_c (np0 hA rfl)).trans ((up_c (np0 hA rfl)).trans (hid kn_278))) ⟨by omega, by omega⟩ ⟨by omega, by omega⟩
          refine q_aload_n rfl rfl ?_
          refine v_cv rfl rfl rfl rfl (by decide) ⟨⟨rfl, rfl⟩, by decide, rfl⟩ (Nat.le_of_ble_eq_true rfl) (Nat.le_of_ble_eq_true rfl) ?_
          refine q_aload_n rfl rfl ?_
          refine v_gi (z := 5) (v := (-1)) rfl rfl rfl (by decide) rfl rfl (hc_1) ?_
          refine q_iconst rfl ?_
          refine v_ic_ne_f (t := 12) rfl (by decide) (by decide) ?_
          refine q_iconst rfl ?_
          refine q_goto (t := 13) rfl (by decide) ?_
          refine v_zret rfl rfl (by decide) ?_
          refine bk_inl ?_
          refine v_if_eq_f (t := 136) rfl (by decide) (by decide) ?_
          refine q_aload_n rfl rfl ?_
          refine v_cv rfl rfl rfl rfl (by decide) ⟨⟨rfl, rfl⟩, by decide, rfl⟩ (Nat.le_of_ble_eq_true rfl) (Nat.le_of_ble_eq_true rfl) ?_
          refine q_aload_n rfl rfl ?_
          have kn_281 : Hid (c2 41 3 = e1) := (hFc 41 3 (fun q => q.elim (fun h => absurd h.2 (ni rfl)) (fun q => q.elim (fun h => absurd h.2 (ni rfl)) (fun q => q.elim (fun h => absurd h.2 (ni rfl)) (fun q => q.elim (fun h => absurd h.2 (ni rfl)) (fun q => q.elim (fun h => absurd h.2 (ni rfl)) (fun q => q.elim (fun h => absurd h.2 (ni rfl)) (fun q => q.elim (fun h => absurd h.2 (ni rfl)) (fun q => q.elim (fun h => absurd h (nn rfl)) (fun q => q.elim (fun h => absurd h (nn rfl)) (fun h => absurd h (nn rfl)))))))))))).trans (hr_e1)
          have h_282 : -2147483648 ≤ (H (nx F e1 a)) ∧ (H (nx F e1 a)) ≤ 2147483647 := by rw [← hH (nx F e1 a)]; exact ir_43 hI (nx F e1 a)
          have h_283 := hU (nx F e1 a) (by omega) (by omega)
          have h_284 := hb_or (b := H) (e := e1) (r := (nx F e1 a))
          have h_285 := hb_bd (b := H) (e := e1) (r := (nx F e1 a)) (lo := -2147483648) (hi := 2147483647) ⟨by omega, by omega⟩ (by decide)
          refine v_cv rfl rfl rfl rfl (by decide) ⟨⟨rfl, rfl⟩, by decide, rfl⟩ (Nat.le_of_ble_eq_true rfl) (Nat.le_of_ble_eq_true rfl) (f_154 (e1 := e1) (a9 := a) (B := H) (r8 := (nx F e1 a)) (r := (hb H e1 (nx F e1 a))) hI2 ((hid kn_281)) ((hr_a)) (fun j => (hFc 43 j (fun q => q.elim (fun h => absurd h.1 (nn rfl)) (fun q => q.elim (fun h => absurd h.1 (nn rfl)) (fun q => q.elim (fun h => absurd h.1 (nn rfl)) (fun q => q.elim (fun h => absurd h.1 (nn rfl)) (fun q => q.elim (fun h => absurd h.1 (nn rfl)) (fun q => q.elim (fun h => absurd h.1 (nn rfl)) (fun q => q.elim (fun h => absurd h.1 (nn rfl)) (fun q => q.elim (fun h => absurd h (nn rfl)) (fun q => q.elim (fun h => absurd h (nn rfl)) (fun h => absurd h (nn rfl)))))))))))).trans (hH j)) ((nx_tr hU (by omega) (by omega)).trans (rfl)) rfl (fun c_286 hI_287 hF_288 h_289 => ?_))
          refine bk_inl ?_
          refine q_pop rfl rfl ?_
          refine q_aload_n rfl rfl ?_
          refine v_gi (z := 4) (v := (nx F e1 a)) rfl rfl rfl (by decide) rfl rfl (h_289) ?_
          refine q_aload_n rfl rfl ?_
          have kn_290 : Hid (c_286 41 3 = e1) := (hF_288 41 3 (fun h => absurd h.2 (ni rfl))).trans (hid kn_281)
          refine v_gi (z := 3) (v := e1) rfl rfl rfl (by decide) rfl rfl (hid kn_290) ?_
          refine v_ic_ge_f (t := 20) rfl (by decide) (by omega) ?_
          refine q_iconst rfl ?_
          refine q_goto (t := 21) rfl (by decide) ?_
          refine v_zret rfl rfl (by decide) ?_
          refine bk_inl ?_
          refine v_if_eq_f (t := 136) rfl (by decide) (by decide) ?_
          refine q_aload_n rfl rfl ?_
          have h_291 := wv_bd (b := F) (r := (nx F e1 a)) (l := (ln F e1 (nx F e1 a))) (fun j h1 h2 => ⟨(ln_in (e := e1) (a := (nx F e1 a)) h1 (by omega)).1, (ln_in (e := e1) (a := (nx F e1 a)) h1 (by omega)).2.1⟩)
          have h_292 := wr8 (b := F) (r := (nx F e1 a)) (l := (ln F e1 (nx F e1 a))) (by omega) (fun j h1 h2 => ⟨(ln_in (e := e1) (a := (nx F e1 a)) h1 (by omega)).1, (ln_in (e := e1) (a := (nx F e1 a)) h1 (by omega)).2.1⟩)
          refine v_cv rfl rfl rfl rfl (by decide) ⟨⟨rfl, rfl⟩, by decide, rfl⟩ (Nat.le_of_ble_eq_true rfl) (Nat.le_of_ble_eq_true rfl) (f_157 (e1 := e1) (a9 := (nx F e1 a)) (B := H) (r8 := (nx F e1 a)) (L8 := (ln F e1 (nx F e1 a))) (W8 := (wv F (nx F e1 a) (ln F e1 (nx F e1 a)))) hI_287 ((hid kn_290)) ((h_289)) (fun j => ((hF_288 43 j (fun h => absurd h.1 (nn rfl))).trans (hFc 43 j (fun q => q.elim (fun h => absurd h.1 (nn rfl)) (fun q => q.elim (fun h => absurd h.1 (nn rfl)) (fun q => q.elim (fun h => absurd h.1 (nn rfl)) (fun q => q.elim (fun h => absurd h.1 (nn rfl)) (fun q => q.elim (fun h => absurd h.1 (nn rfl)) (fun q => q.elim (fun h => absurd h.1 (nn rfl)) (fun q => q.elim (fun h => absurd h.1 (nn rfl)) (fun q => q.elim (fun h => absurd h (nn rfl)) (fun q => q.elim (fun h => absurd h (nn rfl)) (fun h => absurd h (nn rfl))))))))))))).trans (hH j)) ((nx_tr hU (by omega) (by omega)).trans ((nx_z (by omega)))) ((ln_tr hU (by omega) (by omega)).trans (rfl)) ((wv_tr hU (by omega) (by omega) (fun j h1 h2 => ⟨(ln_in (e := e1) (a := (nx F e1 a)) h1 (by omega)).1, (ln_in (e := e1) (a := (nx F e1 a)) h1 (by omega)).2.1⟩)).trans (rfl)) (fun c_293 hI_294 hF_295 hz_296 => ?_))
          refine bk_inl ?_
          refine q_istore_n rfl (by decide) ?_
          refine q_iload_n rfl rfl ?_
          refine q_call rfl rfl rfl rfl ?_
          refine q_iload_n rfl rfl ?_
          refine q_ldc_s rfl rfl rfl (by decide) ?_
          refine q_call rfl rfl rfl rfl (s_158_16 ?_)
          refine bk_inl ?_
          by_cases h_297 : (wv F (nx F e1 a) (ln F e1 (nx F e1 a))) = 10290
          · refine v_ic_eq_t (t := 36) rfl (by decide) (by omega) ?_
            refine q_iconst rfl ?_
            refine q_goto (t := 41) rfl (by decide) ?_
            refine v_zret rfl rfl (by decide) ?_
            refine bk_inl ?_
            refine v_if_ne_t (t := 82) rfl (by decide) (by decide) ?_
            refine q_iload_n rfl rfl ?_
            refine v_bip rfl (by decide) ?_
            refine v_ic_eq_t (t := 96) rfl (by decide) (by omega) ?_
            refine q_aload_n rfl rfl ?_
            refine q_iconst rfl ?_
            refine q_aload_n rfl rfl ?_
            refine v_gi (z := 4) (v := (nx F e1 a)) rfl rfl rfl (by decide) rfl rfl (hz_296) ?_
            refine v_cv rfl rfl rfl rfl (by decide) ⟨⟨rfl, rfl⟩, by decide, rfl⟩ (Nat.le_of_ble_eq_true rfl) (Nat.le_of_ble_eq_true rfl) ?_
            refine q_aload_n rfl rfl ?_
            have kn_298 : Hid (c_286 41 5 = (-1)) := (hF_288 41 5 (fun h => absurd h.2 (ni rfl))).trans (hc_1)
            have kn_299 : Hid (c_293 41 5 = (-1)) := (hF_295 41 5 (fun h => absurd h.2 (ni rfl))).trans (hid kn_298)
            refine v_gi (z := 5) (v := (-1)) rfl rfl rfl (by decide) rfl rfl (hid kn_299) ?_
            refine q_iconst rfl ?_
            refine v_ic_eq_t (t := 9) rfl (by decide) (by decide) ?_
            refine q_aload_n rfl rfl ?_
            refine q_iload_n rfl rfl ?_
            refine v_pi (z := 5) rfl rfl rfl (by decide) rfl rfl rfl (by decide) ?_
            refine q_aload_n rfl rfl ?_
            refine q_iload_n rfl rfl ?_
            refine v_pi (z := 6) rfl rfl rfl (by decide) rfl rfl rfl (by decide) ?_
            refine q_vret rfl rfl ?_
            refine bk_inl ?_
            refine q_aload_n rfl rfl ?_
            refine v_cv rfl rfl rfl rfl (by decide) ⟨⟨rfl, rfl⟩, by decide, rfl⟩ (Nat.le_of_ble_eq_true rfl) (Nat.le_of_ble_eq_true rfl) ?_
            refine q_aload_n rfl rfl ?_
            refine v_gi (z := 5) (v := (nx F e1 a)) rfl rfl rfl (by decide) rfl rfl ((up_n (by decide)).trans (up_e rfl)) ?_
            refine q_iconst rfl ?_
            refine v_ic_ne_t (t := 12) rfl (by decide) (by omega) ?_
            refine q_iconst rfl ?_
            refine v_zret rfl rfl (by decide) ?_
            refine bk_inl ?_
            refine v_if_ne_f (t := 115) rfl (by decide) (by decide) ?_
            refine q_goto (t := 136) rfl (by decide) ?_
            refine Wp_ls [(0, .ref 41), (1, vi a1)] (lsub_cons rfl (lsub_cons rfl lsub_nil)) ?_
            have hI_300 := iw_41_5 (v := (nx F e1 a)) hI_294 ⟨by omega, by omega⟩
            have hI_301 := iw_41_6 (v := 3) hI_300 ⟨by decide, by decide⟩
            have h_302 : (up (up c_293 41 5 (nx F e1 a)) 41 6 3) 41 5 = (nx F e1 a) := ((up_n (by decide)).trans (up_e rfl))
            have h_303 : (up (up c_293 41 5 (nx F e1 a)) 41 6 3) 41 4 = (nx F e1 a) := ((up_n (by decide)).trans ((up_n (by decide)).trans (hz_296)))
            have h_304 : (up (up c_293 41 5 (nx F e1 a)) 41 6 3) 41 6 = 3 := (up_e rfl)
            have kn_305 : Hid (c_286 41 16 = jr) := (hF_288 41 16 (fun h => absurd h.2 (ni rfl))).trans (hr_jr)
            have kn_306 : Hid (c_293 41 16 = jr) := (hF_295 41 16 (fun h => absurd h.2 (ni rfl))).trans (hid kn_305)
            have h_307 : (up (up c_293 41 5 (nx F e1 a)) 41 6 3) 41 16 = jr := ((up_n (by decide)).trans ((up_n (by decide)).trans (hid kn_306)))
            have kn_308 : Hid (c_286 41 17 = st) := (hF_288 41 17 (fun h => absurd h.2 (ni rfl))).trans (hr_st)
            have kn_309 : Hid (c_293 41 17 = st) := (hF_295 41 17 (fun h => absurd h.2 (ni rfl))).trans (hid kn_308)
            have h_310 : (up (up c_293 41 5 (nx F e1 a)) 41 6 3) 41 17 = st := ((up_n (by decide)).trans ((up_n (by decide)).trans (hid kn_309)))
            have kn_311 : Hid (c_286 41 18 = si) := (hF_288 41 18 (fun h => absurd h.2 (ni rfl))).trans (hr_si)
            have kn_312 : Hid (c_293 41 18 = si) := (hF_295 41 18 (fun h => absurd h.2 (ni rfl))).trans (hid kn_311)
            have h_313 : (up (up c_293 41 5 (nx F e1 a)) 41 6 3) 41 18 = si := ((up_n (by decide)).trans ((up_n (by decide)).trans (hid kn_312)))
            have kn_314 : Hid (c_286 41 19 = du) := (hF_288 41 19 (fun h => absurd h.2 (ni rfl))).trans (hr_du)
            have kn_315 : Hid (c_293 41 19 = du) := (hF_295 41 19 (fun h => absurd h.2 (ni rfl))).trans (hid kn_314)
            have h_316 : (up (up c_293 41 5 (nx F e1 a)) 41 6 3) 41 19 = du := ((up_n (by decide)).trans ((up_n (by decide)).trans (hid kn_315)))
            have h_317 : (up (up c_293 41 5 (nx F e1 a)) 41 6 3) 41 16 = jr := ((up_n (by decide)).trans ((up_n (by decide)).trans (hid kn_306)))
            have h_318 : (up (up c_293 41 5 (nx F e1 a)) 41 6 3) 41 17 = st := ((up_n (by decide)).trans ((up_n (by decide)).trans (hid kn_309)))
            have h_319 : (up (up c_293 41 5 (nx F e1 a)) 41 6 3) 41 18 = si := ((up_n (by decide)).trans ((up_n (by decide)).trans (hid kn_312)))
            exact K (up (up c_293 41 5 (nx F e1 a)) 41 6 3)  hI_301 (fun a j hm => (up_b (Decidable.or_iff_not_imp_left.mpr (fun h1 h2 => hm (Or.inr (Or.inr (Or.inl ⟨Decidable.not_not.mp h1, h2⟩)))))).trans ((up_b (Decidable.or_iff_not_imp_left.mpr (fun h1 h2 => hm (Or.inr (Or.inl ⟨Decidable.not_not.mp h1, h2⟩))))).trans ((hF_295 a j (fun h => hm (Or.inl h))).trans ((hF_288 a j (fun h => hm (Or.inl h))).trans (hFc a j (fun q => q.elim (fun h => hm (Or.inl h)) (fun q => q.elim (fun h => hm (Or.inr (Or.inl h))) (fun q => q.elim (fun h => hm (Or.inr (Or.inr (Or.inl h)))) (fun q => q.elim (fun h => hm (Or.inr (Or.inr (Or.inr (Or.inl h))))) (fun q => q.elim (fun h => hm (Or.inr (Or.inr (Or.inr (Or.inr (Or.inl h)))))) (fun q => q.elim (fun h => hm (Or.inr (Or.inr (Or.inr (Or.inr (Or.inr (Or.inl h))))))) (fun q => q.elim (fun h => hm (Or.inr (Or.inr (Or.inr (Or.inr (Or.inr (Or.inr (Or.inl h)))))))) (fun q => q.elim (fun h => hm (Or.inr (Or.inr (Or.inr (Or.inr (Or.inr (Or.inr (Or.inr (Or.inl h))))))))) (fun q => q.elim (fun h => hm (Or.inr (Or.inr (Or.inr (Or.inr (Or.inr (Or.inr (Or.inr (Or.inr (Or.inl h)))))))))) (fun h => hm (Or.inr (Or.inr (Or.inr (Or.inr (Or.inr (Or.inr (Or.inr (Or.inr (Or.inr h)))))))))))))))))))))))) (by unfold Rt; omega) (by omega) (fun hz => absurd hz (by omega)) (fun hz => absurd hz (by omega)) (fun hz => absurd hz (by omega))
          · refine v_ic_eq_f (t := 36) rfl (by decide) (by omega) ?_
            refine q_iload_n rfl rfl ?_
            refine q_ldc_s rfl rfl rfl (by decide) ?_
            refine q_call rfl rfl rfl rfl (s_158_17 ?_)
            refine bk_inl ?_
            by_cases h_320 : (wv F (nx F e1 a) (ln F e1 (nx F e1 a))) = 20594117
            · refine v_ic_eq_t (t := 36) rfl (by decide) (by omega) ?_
              refine q_iconst rfl ?_
              refine q_goto (t := 41) rfl (by decide) ?_
              refine v_zret rfl rfl (by decide) ?_
              refine bk_inl ?_
              refine v_if_ne_t (t := 82) rfl (by decide) (by decide) ?_
              refine q_iload_n rfl rfl ?_
              refine v_bip rfl (by decide) ?_
              refine v_ic_eq_t (t := 96) rfl (by decide) (by omega) ?_
              refine q_aload_n rfl rfl ?_
              refine q_iconst rfl ?_
              refine q_aload_n rfl rfl ?_
              refine v_gi (z := 4) (v := (nx F e1 a)) rfl rfl rfl (by decide) rfl rfl (hz_296) ?_
              refine v_cv rfl rfl rfl rfl (by decide) ⟨⟨rfl, rfl⟩, by decide, rfl⟩ (Nat.le_of_ble_eq_true rfl) (Nat.le_of_ble_eq_true rfl) ?_
              refine q_aload_n rfl rfl ?_
              have kn_321 : Hid (c_286 41 5 = (-1)) := (hF_288 41 5 (fun h => absurd h.2 (ni rfl))).trans (hc_1)
              have kn_322 : Hid (c_293 41 5 = (-1)) := (hF_295 41 5 (fun h => absurd h.2 (ni rfl))).trans (hid kn_321)
              refine v_gi (z := 5) (v := (-1)) rfl rfl rfl (by decide) rfl rfl (hid kn_322) ?_
              refine q_iconst rfl ?_
              refine v_ic_eq_t (t := 9) rfl (by decide) (by decide) ?_
              refine q_aload_n rfl rfl ?_
              refine q_iload_n rfl rfl ?_
              refine v_pi (z := 5) rfl rfl rfl (by decide) rfl rfl rfl (by decide) ?_
              refine q_aload_n rfl rfl ?_
              refine q_iload_n rfl rfl ?_
              refine v_pi (z := 6) rfl rfl rfl (by decide) rfl rfl rfl (by decide) ?_
              refine q_vret rfl rfl ?_
              refine bk_inl ?_
              refine q_aload_n rfl rfl ?_
              refine v_cv rfl rfl rfl rfl (by decide) ⟨⟨rfl, rfl⟩, by decide, rfl⟩ (Nat.le_of_ble_eq_true rfl) (Nat.le_of_ble_eq_true rfl) ?_
              refine q_aload_n rfl rfl ?_
              refine v_gi (z := 5) (v := (nx F e1 a)) rfl rfl rfl (by decide) rfl rfl ((up_n (by decide)).trans (up_e rfl)) ?_
              refine q_iconst rfl ?_
              refine v_ic_ne_t (t := 12) rfl (by decide) (by omega) ?_
              refine q_iconst rfl ?_
              refine v_zret rfl rfl (by decide) ?_
              refine bk_inl ?_
              refine v_if_ne_f (t := 115) rfl (by decide) (by decide) ?_
              refine q_goto (t := 136) rfl (by decide) ?_
              refine Wp_ls [(0, .ref 41), (1, vi a1)] (lsub_cons rfl (lsub_cons rfl lsub_nil)) ?_
              have hI_323 := iw_41_5 (v := (nx F e1 a)) hI_294 ⟨by omega, by omega⟩
              have hI_324 := iw_41_6 (v := 3) hI_323 ⟨by decide, by decide⟩
              have h_325 : (up (up c_293 41 5 (nx F e1 a)) 41 6 3) 41 5 = (nx F e1 a) := ((up_n (by decide)).trans (up_e rfl))
              have h_326 : (up (up c_293 41 5 (nx F e1 a)) 41 6 3) 41 4 = (nx F e1 a) := ((up_n (by decide)).trans ((up_n (by decide)).trans (hz_296)))
              have h_327 : (up (up c_293 41 5 (nx F e1 a)) 41 6 3) 41 6 = 3 := (up_e rfl)
              have kn_328 : Hid (c_286 41 16 = jr) := (hF_288 41 16 (fun h => absurd h.2 (ni rfl))).trans (hr_jr)
              have kn_329 : Hid (c_293 41 16 = jr) := (hF_295 41 16 (fun h => absurd h.2 (ni rfl))).trans (hid kn_328)
              have h_330 : (up (up c_293 41 5 (nx F e1 a)) 41 6 3) 41 16 = jr := ((up_n (by decide)).trans ((up_n (by decide)).trans (hid kn_329)))
              have kn_331 : Hid (c_286 41 17 = st) := (hF_288 41 17 (fun h => absurd h.2 (ni rfl))).trans (hr_st)
              have kn_332 : Hid (c_293 41 17 = st) := (hF_295 41 17 (fun h => absurd h.2 (ni rfl))).trans (hid kn_331)
              have h_333 : (up (up c_293 41 5 (nx F e1 a)) 41 6 3) 41 17 = st := ((up_n (by decide)).trans ((up_n (by decide)).trans (hid kn_332)))
              have kn_334 : Hid (c_286 41 18 = si) := (hF_288 41 18 (fun h => absurd h.2 (ni rfl))).trans (hr_si)
              have kn_335 : Hid (c_293 41 18 = si) := (hF_295 41 18 (fun h => absurd h.2 (ni rfl))).trans (hid kn_334)
              have h_336 : (up (up c_293 41 5 (nx F e1 a)) 41 6 3) 41 18 = si := ((up_n (by decide)).trans ((up_n (by decide)).trans (hid kn_335)))
              have kn_337 : Hid (c_286 41 19 = du) := (hF_288 41 19 (fun h => absurd h.2 (ni rfl))).trans (hr_du)
              have kn_338 : Hid (c_293 41 19 = du) := (hF_295 41 19 (fun h => absurd h.2 (ni rfl))).trans (hid kn_337)
              have h_339 : (up (up c_293 41 5 (nx F e1 a)) 41 6 3) 41 19 = du := ((up_n (by decide)).trans ((up_n (by decide)).trans (hid kn_338)))
              have h_340 : (up (up c_293 41 5 (nx F e1 a)) 41 6 3) 41 16 = jr := ((up_n (by decide)).trans ((up_n (by decide)).trans (hid kn_329)))
              have h_341 : (up (up c_293 41 5 (nx F e1 a)) 41 6 3) 41 17 = st := ((up_n (by decide)).trans ((up_n (by decide)).trans (hid kn_332)))
              have h_342 : (up (up c_293 41 5 (nx F e1 a)) 41 6 3) 41 18 = si := ((up_n (by decide)).trans ((up_n (by decide)).trans (hid kn_335)))
              exact K (up (up c_293 41 5 (nx F e1 a)) 41 6 3)  hI_324 (fun a j hm => (up_b (Decidable.or_iff_not_imp_left.mpr (fun h1 h2 => hm (Or.inr (Or.inr (Or.inl ⟨Decidable.not_not.mp h1, h2⟩)))))).trans ((up_b (Decidable.or_iff_not_imp_left.mpr (fun h1 h2 => hm (Or.inr (Or.inl ⟨Decidable.not_not.mp h1, h2⟩))))).trans ((hF_295 a j (fun h => hm (Or.inl h))).trans ((hF_288 a j (fun h => hm (Or.inl h))).trans (hFc a j (fun q => q.elim (fun h => hm (Or.inl h)) (fun q => q.elim (fun h => hm (Or.inr (Or.inl h))) (fun q => q.elim (fun h => hm (Or.inr (Or.inr (Or.inl h)))) (fun q => q.elim (fun h => hm (Or.inr (Or.inr (Or.inr (Or.inl h))))) (fun q => q.elim (fun h => hm (Or.inr (Or.inr (Or.inr (Or.inr (Or.inl h)))))) (fun q => q.elim (fun h => hm (Or.inr (Or.inr (Or.inr (Or.inr (Or.inr (Or.inl h))))))) (fun q => q.elim (fun h => hm (Or.inr (Or.inr (Or.inr (Or.inr (Or.inr (Or.inr (Or.inl h)))))))) (fun q => q.elim (fun h => hm (Or.inr (Or.inr (Or.inr (Or.inr (Or.inr (Or.inr (Or.inr (Or.inl h))))))))) (fun q => q.elim (fun h => hm (Or.inr (Or.inr (Or.inr (Or.inr (Or.inr (Or.inr (Or.inr (Or.inr (Or.inl h)))))))))) (fun h => hm (Or.inr (Or.inr (Or.inr (Or.inr (Or.inr (Or.inr (Or.inr (Or.inr (Or.inr h)))))))))))))))))))))))) (by unfold Rt; omega) (by omega) (fun hz => absurd hz (by omega)) (fun hz => absurd hz (by omega)) (fun hz => absurd hz (by omega))
            · refine v_ic_eq_f (t := 36) rfl (by decide) (by omega) ?_
              refine q_iload_n rfl rfl ?_
              refine q_ldc_s rfl rfl rfl (by decide) ?_
              refine q_call rfl rfl rfl rfl (s_158_18 ?_)
              refine bk_inl ?_
              by_cases h_343 : (wv F (nx F e1 a) (ln F e1 (nx F e1 a))) = 20223685
              · refine v_ic_eq_t (t := 36) rfl (by decide) (by omega) ?_
                refine q_iconst rfl ?_
                refine q_goto (t := 41) rfl (by decide) ?_
                refine v_zret rfl rfl (by decide) ?_
                refine bk_inl ?_
                refine v_if_ne_t (t := 82) rfl (by decide) (by decide) ?_
                refine q_iload_n rfl rfl ?_
                refine v_bip rfl (by decide) ?_
                refine v_ic_eq_t (t := 96) rfl (by decide) (by omega) ?_
                refine q_aload_n rfl rfl ?_
                refine q_iconst rfl ?_
                refine q_aload_n rfl rfl ?_
                refine v_gi (z := 4) (v := (nx F e1 a)) rfl rfl rfl (by decide) rfl rfl (hz_296) ?_
                refine v_cv rfl rfl rfl rfl (by decide) ⟨⟨rfl, rfl⟩, by decide, rfl⟩ (Nat.le_of_ble_eq_true rfl) (Nat.le_of_ble_eq_true rfl) ?_
                refine q_aload_n rfl rfl ?_
                have kn_344 : Hid (c_286 41 5 = (-1)) := (hF_288 41 5 (fun h => absurd h.2 (ni rfl))).trans (hc_1)
                have kn_345 : Hid (c_293 41 5 = (-1)) := (hF_295 41 5 (fun h => absurd h.2 (ni rfl))).trans (hid kn_344)
                refine v_gi (z := 5) (v := (-1)) rfl rfl rfl (by decide) rfl rfl (hid kn_345) ?_
                refine q_iconst rfl ?_
                refine v_ic_eq_t (t := 9) rfl (by decide) (by decide) ?_
                refine q_aload_n rfl rfl ?_
                refine q_iload_n rfl rfl ?_
                refine v_pi (z := 5) rfl rfl rfl (by decide) rfl rfl rfl (by decide) ?_
                refine q_aload_n rfl rfl ?_
                refine q_iload_n rfl rfl ?_
                refine v_pi (z := 6) rfl rfl rfl (by decide) rfl rfl rfl (by decide) ?_
                refine q_vret rfl rfl ?_
                refine bk_inl ?_
                refine q_aload_n rfl rfl ?_
                refine v_cv rfl rfl rfl rfl (by decide) ⟨⟨rfl, rfl⟩, by decide, rfl⟩ (Nat.le_of_ble_eq_true rfl) (Nat.le_of_ble_eq_true rfl) ?_
                refine q_aload_n rfl rfl ?_
                refine v_gi (z := 5) (v := (nx F e1 a)) rfl rfl rfl (by decide) rfl rfl ((up_n (by decide)).trans (up_e rfl)) ?_
                refine q_iconst rfl ?_
                refine v_ic_ne_t (t := 12) rfl (by decide) (by omega) ?_
                refine q_iconst rfl ?_
                refine v_zret rfl rfl (by decide) ?_
                refine bk_inl ?_
                refine v_if_ne_f (t := 115) rfl (by decide) (by decide) ?_
                refine q_goto (t := 136) rfl (by decide) ?_
                refine Wp_ls [(0, .ref 41), (1, vi a1)] (lsub_cons rfl (lsub_cons rfl lsub_nil)) ?_
                have hI_346 := iw_41_5 (v := (nx F e1 a)) hI_294 ⟨by omega, by omega⟩
                have hI_347 := iw_41_6 (v := 3) hI_346 ⟨by decide, by decide⟩
                have h_348 : (up (up c_293 41 5 (nx F e1 a)) 41 6 3) 41 5 = (nx F e1 a) := ((up_n (by decide)).trans (up_e rfl))
                have h_349 : (up (up c_293 41 5 (nx F e1 a)) 41 6 3) 41 4 = (nx F e1 a) := ((up_n (by decide)).trans ((up_n (by decide)).trans (hz_296)))
                have h_350 : (up (up c_293 41 5 (nx F e1 a)) 41 6 3) 41 6 = 3 := (up_e rfl)
                have kn_351 : Hid (c_286 41 16 = jr) := (hF_288 41 16 (fun h => absurd h.2 (ni rfl))).trans (hr_jr)
                have kn_352 : Hid (c_293 41 16 = jr) := (hF_295 41 16 (fun h => absurd h.2 (ni rfl))).trans (hid kn_351)
                have h_353 : (up (up c_293 41 5 (nx F e1 a)) 41 6 3) 41 16 = jr := ((up_n (by decide)).trans ((up_n (by decide)).trans (hid kn_352)))
                have kn_354 : Hid (c_286 41 17 = st) := (hF_288 41 17 (fun h => absurd h.2 (ni rfl))).trans (hr_st)
                have kn_355 : Hid (c_293 41 17 = st) := (hF_295 41 17 (fun h => absurd h.2 (ni rfl))).trans (hid kn_354)
                have h_356 : (up (up c_293 41 5 (nx F e1 a)) 41 6 3) 41 17 = st := ((up_n (by decide)).trans ((up_n (by decide)).trans (hid kn_355)))
                have kn_357 : Hid (c_286 41 18 = si) := (hF_288 41 18 (fun h => absurd h.2 (ni rfl))).trans (hr_si)
                have kn_358 : Hid (c_293 41 18 = si) := (hF_295 41 18 (fun h => absurd h.2 (ni rfl))).trans (hid kn_357)
                have h_359 : (up (up c_293 41 5 (nx F e1 a)) 41 6 3) 41 18 = si := ((up_n (by decide)).trans ((up_n (by decide)).trans (hid kn_358)))
                have kn_360 : Hid (c_286 41 19 = du) := (hF_288 41 19 (fun h => absurd h.2 (ni rfl))).trans (hr_du)
                have kn_361 : Hid (c_293 41 19 = du) := (hF_295 41 19 (fun h => absurd h.2 (ni rfl))).trans (hid kn_360)
                have h_362 : (up (up c_293 41 5 (nx F e1 a)) 41 6 3) 41 19 = du := ((up_n (by decide)).trans ((up_n (by decide)).trans (hid kn_361)))
                have h_363 : (up (up c_293 41 5 (nx F e1 a)) 41 6 3) 41 16 = jr := ((up_n (by decide)).trans ((up_n (by decide)).trans (hid kn_352)))
                have h_364 : (up (up c_293 41 5 (nx F e1 a)) 41 6 3) 41 17 = st := ((up_n (by decide)).trans ((up_n (by decide)).trans (hid kn_355)))
                have h_365 : (up (up c_293 41 5 (nx F e1 a)) 41 6 3) 41 18 = si := ((up_n (by decide)).trans ((up_n (by decide)).trans (hid kn_358)))
                exact K (up (up c_293 41 5 (nx F e1 a)) 41 6 3)  hI_347 (fun a j hm => (up_b (Decidable.or_iff_not_imp_left.mpr (fun h1 h2 => hm (Or.inr (Or.inr (Or.inl ⟨Decidable.not_not.mp h1, h2⟩)))))).trans ((up_b (Decidable.or_iff_not_imp_left.mpr (fun h1 h2 => hm (Or.inr (Or.inl ⟨Decidable.not_not.mp h1, h2⟩))))).trans ((hF_295 a j (fun h => hm (Or.inl h))).trans ((hF_288 a j (fun h => hm (Or.inl h))).trans (hFc a j (fun q => q.elim (fun h => hm (Or.inl h)) (fun q => q.elim (fun h => hm (Or.inr (Or.inl h))) (fun q => q.elim (fun h => hm (Or.inr (Or.inr (Or.inl h)))) (fun q => q.elim (fun h => hm (Or.inr (Or.inr (Or.inr (Or.inl h))))) (fun q => q.elim (fun h => hm (Or.inr (Or.inr (Or.inr (Or.inr (Or.inl h)))))) (fun q => q.elim (fun h => hm (Or.inr (Or.inr (Or.inr (Or.inr (Or.inr (Or.inl h))))))) (fun q => q.elim (fun h => hm (Or.inr (Or.inr (Or.inr (Or.inr (Or.inr (Or.inr (Or.inl h)))))))) (fun q => q.elim (fun h => hm (Or.inr (Or.inr (Or.inr (Or.inr (Or.inr (Or.inr (Or.inr (Or.inl h))))))))) (fun q => q.elim (fun h => hm (Or.inr (Or.inr (Or.inr (Or.inr (Or.inr (Or.inr (Or.inr (Or.inr (Or.inl h)))))))))) (fun h => hm (Or.inr (Or.inr (Or.inr (Or.inr (Or.inr (Or.inr (Or.inr (Or.inr (Or.inr h)))))))))))))))))))))))) (by unfold Rt; omega) (by omega) (fun hz => absurd hz (by omega)) (fun hz => absurd hz (by omega)) (fun hz => absurd hz (by omega))
              · refine v_ic_eq_f (t := 36) rfl (by decide) (by omega) ?_
                refine q_iload_n rfl rfl ?_
                refine q_ldc_s rfl rfl rfl (by decide) ?_
                refine q_call rfl rfl rfl rfl (s_158_19 ?_)
                refine bk_inl ?_
                refine v_ic_ne_f (t := 40) rfl (by decide) (by omega) ?_
                refine q_iconst rfl ?_
                refine q_goto (t := 41) rfl (by decide) ?_
                refine v_zret rfl rfl (by decide) ?_
                refine bk_inl ?_
                refine v_if_ne_t (t := 82) rfl (by decide) (by decide) ?_
                refine q_iload_n rfl rfl ?_
                refine v_bip rfl (by decide) ?_
                refine v_ic_eq_t (t := 96) rfl (by decide) (by omega) ?_
                refine q_aload_n rfl rfl ?_
                refine q_iconst rfl ?_
                refine q_aload_n rfl rfl ?_
                refine v_gi (z := 4) (v := (nx F e1 a)) rfl rfl rfl (by decide) rfl rfl (hz_296) ?_
                refine v_cv rfl rfl rfl rfl (by decide) ⟨⟨rfl, rfl⟩, by decide, rfl⟩ (Nat.le_of_ble_eq_true rfl) (Nat.le_of_ble_eq_true rfl) ?_
                refine q_aload_n rfl rfl ?_
                have kn_366 : Hid (c_286 41 5 = (-1)) := (hF_288 41 5 (fun h => absurd h.2 (ni rfl))).trans (hc_1)
                have kn_367 : Hid (c_293 41 5 = (-1)) := (hF_295 41 5 (fun h => absurd h.2 (ni rfl))).trans (hid kn_366)
                refine v_gi (z := 5) (v := (-1)) rfl rfl rfl (by decide) rfl rfl (hid kn_367) ?_
                refine q_iconst rfl ?_
                refine v_ic_eq_t (t := 9) rfl (by decide) (by decide) ?_
                refine q_aload_n rfl rfl ?_
                refine q_iload_n rfl rfl ?_
                refine v_pi (z := 5) rfl rfl rfl (by decide) rfl rfl rfl (by decide) ?_
                refine q_aload_n rfl rfl ?_
                refine q_iload_n rfl rfl ?_
                refine v_pi (z := 6) rfl rfl rfl (by decide) rfl rfl rfl (by decide) ?_
                refine q_vret rfl rfl ?_
                refine bk_inl ?_
                refine q_aload_n rfl rfl ?_
                refine v_cv rfl rfl rfl rfl (by decide) ⟨⟨rfl, rfl⟩, by decide, rfl⟩ (Nat.le_of_ble_eq_true rfl) (Nat.le_of_ble_eq_true rfl) ?_
                refine q_aload_n rfl rfl ?_
                refine v_gi (z := 5) (v := (nx F e1 a)) rfl rfl rfl (by decide) rfl rfl ((up_n (by decide)).trans (up_e rfl)) ?_
                refine q_iconst rfl ?_
                refine v_ic_ne_t (t := 12) rfl (by decide) (by omega) ?_
                refine q_iconst rfl ?_
                refine v_zret rfl rfl (by decide) ?_
                refine bk_inl ?_
                refine v_if_ne_f (t := 115) rfl (by decide) (by decide) ?_
                refine q_goto (t := 136) rfl (by decide) ?_
                refine Wp_ls [(0, .ref 41), (1, vi a1)] (lsub_cons rfl (lsub_cons rfl lsub_nil)) ?_
                have hI_368 := iw_41_5 (v := (nx F e1 a)) hI_294 ⟨by omega, by omega⟩
                have hI_369 := iw_41_6 (v := 3) hI_368 ⟨by decide, by decide⟩
                have h_370 : (up (up c_293 41 5 (nx F e1 a)) 41 6 3) 41 5 = (nx F e1 a) := ((up_n (by decide)).trans (up_e rfl))
                have h_371 : (up (up c_293 41 5 (nx F e1 a)) 41 6 3) 41 4 = (nx F e1 a) := ((up_n (by decide)).trans ((up_n (by decide)).trans (hz_296)))
                have h_372 : (up (up c_293 41 5 (nx F e1 a)) 41 6 3) 41 6 = 3 := (up_e rfl)
                have kn_373 : Hid (c_286 41 16 = jr) := (hF_288 41 16 (fun h => absurd h.2 (ni rfl))).trans (hr_jr)
                have kn_374 : Hid (c_293 41 16 = jr) := (hF_295 41 16 (fun h => absurd h.2 (ni rfl))).trans (hid kn_373)
                have h_375 : (up (up c_293 41 5 (nx F e1 a)) 41 6 3) 41 16 = jr := ((up_n (by decide)).trans ((up_n (by decide)).trans (hid kn_374)))
                have kn_376 : Hid (c_286 41 17 = st) := (hF_288 41 17 (fun h => absurd h.2 (ni rfl))).trans (hr_st)
                have kn_377 : Hid (c_293 41 17 = st) := (hF_295 41 17 (fun h => absurd h.2 (ni rfl))).trans (hid kn_376)
                have h_378 : (up (up c_293 41 5 (nx F e1 a)) 41 6 3) 41 17 = st := ((up_n (by decide)).trans ((up_n (by decide)).trans (hid kn_377)))
                have kn_379 : Hid (c_286 41 18 = si) := (hF_288 41 18 (fun h => absurd h.2 (ni rfl))).trans (hr_si)
                have kn_380 : Hid (c_293 41 18 = si) := (hF_295 41 18 (fun h => absurd h.2 (ni rfl))).trans (hid kn_379)
                have h_381 : (up (up c_293 41 5 (nx F e1 a)) 41 6 3) 41 18 = si := ((up_n (by decide)).trans ((up_n (by decide)).trans (hid kn_380)))
                have kn_382 : Hid (c_286 41 19 = du) := (hF_288 41 19 (fun h => absurd h.2 (ni rfl))).trans (hr_du)
                have kn_383 : Hid (c_293 41 19 = du) := (hF_295 41 19 (fun h => absurd h.2 (ni rfl))).trans (hid kn_382)
                have h_384 : (up (up c_293 41 5 (nx F e1 a)) 41 6 3) 41 19 = du := ((up_n (by decide)).trans ((up_n (by decide)).trans (hid kn_383)))
                have h_385 : (up (up c_293 41 5 (nx F e1 a)) 41 6 3) 41 16 = jr := ((up_n (by decide)).trans ((up_n (by decide)).trans (hid kn_374)))
                have h_386 : (up (up c_293 41 5 (nx F e1 a)) 41 6 3) 41 17 = st := ((up_n (by decide)).trans ((up_n (by decide)).trans (hid kn_377)))
                have h_387 : (up (up c_293 41 5 (nx F e1 a)) 41 6 3) 41 18 = si := ((up_n (by decide)).trans ((up_n (by decide)).trans (hid kn_380)))
                exact K (up (up c_293 41 5 (nx F e1 a)) 41 6 3)  hI_369 (fun a j hm => (up_b (Decidable.or_iff_not_imp_left.mpr (fun h1 h2 => hm (Or.inr (Or.inr (Or.inl ⟨Decidable.not_not.mp h1, h2⟩)))))).trans ((up_b (Decidable.or_iff_not_imp_left.mpr (fun h1 h2 => hm (Or.inr (Or.inl ⟨Decidable.not_not.mp h1, h2⟩))))).trans ((hF_295 a j (fun h => hm (Or.inl h))).trans ((hF_288 a j (fun h => hm (Or.inl h))).trans (hFc a j (fun q => q.elim (fun h => hm (Or.inl h)) (fun q => q.elim (fun h => hm (Or.inr (Or.inl h))) (fun q => q.elim (fun h => hm (Or.inr (Or.inr (Or.inl h)))) (fun q => q.elim (fun h => hm (Or.inr (Or.inr (Or.inr (Or.inl h))))) (fun q => q.elim (fun h => hm (Or.inr (Or.inr (Or.inr (Or.inr (Or.inl h)))))) (fun q => q.elim (fun h => hm (Or.inr (Or.inr (Or.inr (Or.inr (Or.inr (Or.inl h))))))) (fun q => q.elim (fun h => hm (Or.inr (Or.inr (Or.inr (Or.inr (Or.inr (Or.inr (Or.inl h)))))))) (fun q => q.elim (fun h => hm (Or.inr (Or.inr (Or.inr (Or.inr (Or.inr (Or.inr (Or.inr (Or.inl h))))))))) (fun q => q.elim (fun h => hm (Or.inr (Or.inr (Or.inr (Or.inr (Or.inr (Or.inr (Or.inr (Or.inr (Or.inl h)))))))))) (fun h => hm (Or.inr (Or.inr (Or.inr (Or.inr (Or.inr (Or.inr (Or.inr (Or.inr (Or.inr h)))))))))))))))))))))))) (by unfold Rt; omega) (by omega) (fun hz => absurd hz (by omega)) (fun hz => absurd hz (by omega)) (fun hz => absurd hz (by omega))
        · refine v_ic_eq_f (t := 53) rfl (by decide) (by omega) ?_
          refine q_aload_n rfl rfl ?_
          refine q_iload rfl rfl ?_
          refine v_cv rfl rfl rfl (ck_p0 hA) (by omega) ⟨⟨rfl, rfl⟩, by decide, rfl⟩ (Nat.le_of_ble_eq_true rfl) (Nat.le_of_ble_eq_true rfl) ?_
          refine q_iload_n rfl rfl ?_
          by_cases h_388 : (wd8_0 F (nx F e1 a) (ln F e1 (nx F e1 a))) = 0
          · skip
            refine v_tsw_i (t := 28) 0 rfl (by omega) (by decide) rfl (by decide) ?_
            refine q_aload_n rfl rfl ?_
            have kn_389 : Hid (c_27 A 0 = jr) := (hF_29 A 0 (fun h => absurd h.1 (np0 hA rfl))).trans (hg_jr)
            have kn_390 : Hid (c_87 A 0 = jr) := (hF_89 A 0 (fun h => absurd h.1 (np0 hA rfl))).trans (hid kn_389)
            have kn_391 : Hid (c_112 A 0 = jr) := (hF_114 A 0 (fun q => q.elim (fun h => absurd h.1 (np0 hA rfl)) (fun q => q.elim (fun h => absurd h.1 (np0 hA rfl)) (fun h => absurd h.1 (np0 hA rfl))))).trans (hid kn_390)
            refine v_gi (z := 0) (v := jr) rfl rfl (ck_p0 hA) (by omega) rfl rfl (hid kn_391) ?_
            refine v_bip rfl (by decide) ?_
            by_cases h_392 : jr ≠ 6
            · refine v_ic_ne_t (t := 41) rfl (by decide) (by omega) ?_
              refine q_iconst rfl ?_
              refine v_zret rfl rfl (by decide) ?_
              refine bk_inl ?_
              refine v_if_eq_t (t := 59) rfl (by decide) (by decide) ?_
              refine q_aload_n rfl rfl ?_
              refine v_cv rfl rfl rfl rfl (by decide) ⟨⟨rfl, rfl⟩, by decide, rfl⟩ (Nat.le_of_ble_eq_true rfl) (Nat.le_of_ble_eq_true rfl) ?_
              refine q_aload_n rfl rfl ?_
              refine v_gi (z := 4) (v := 0) rfl rfl rfl (by decide) rfl rfl (hz_118) ?_
              refine v_if_ne_f (t := 11) rfl (by decide) (by decide) ?_
              refine q_iconst rfl ?_
              refine q_goto (t := 12) rfl (by decide) ?_
              refine v_zret rfl rfl (by decide) ?_
              refine bk_inl ?_
              refine v_if_eq_f (t := 73) rfl (by decide) (by decide) ?_
              refine q_aload_n rfl rfl ?_
              refine q_aload_n rfl rfl ?_
              refine q_iload rfl rfl ?_
              have hw_393 : (wd8_0 F (nx F e1 a) (ln F e1 (nx F e1 a))) = 0 := by omega
              rw [hw_393]
              have h_394 : c_112 A 0 = jr := (hid kn_391)
              have kn_395 : Hid (c_27 A 1 = st) := (hF_29 A 1 (fun h => absurd h.1 (np0 hA rfl))).trans (hg_st)
              have kn_396 : Hid (c_87 A 1 = st) := (hF_89 A 1 (fun h => absurd h.1 (np0 hA rfl))).trans (hid kn_395)
              have kn_397 : Hid (c_112 A 1 = st) := (hF_114 A 1 (fun q => q.elim (fun h => absurd h.1 (np0 hA rfl)) (fun q => q.elim (fun h => absurd h.1 (np0 hA rfl)) (fun h => absurd h.1 (np0 hA rfl))))).trans (hid kn_396)
              have h_398 : c_112 A 1 = st := (hid kn_397)
              have kn_399 : Hid (c_27 A 2 = si) := (hF_29 A 2 (fun h => absurd h.1 (np0 hA rfl))).trans (hg_si)
              have kn_400 : Hid (c_87 A 2 = si) := (hF_89 A 2 (fun h => absurd h.1 (np0 hA rfl))).trans (hid kn_399)
              have kn_401 : Hid (c_112 A 2 = si) := (hF_114 A 2 (fun q => q.elim (fun h => absurd h.1 (np0 hA rfl)) (fun q => q.elim (fun h => absurd h.1 (np0 hA rfl)) (fun h => absurd h.1 (np0 hA rfl))))).trans (hid kn_400)
              have h_402 : c_112 A 2 = si := (hid kn_401)
              refine v_cv rfl rfl rfl (ck_p0 hA) (by omega) ⟨⟨rfl, rfl⟩, by decide, rfl⟩ (Nat.le_of_ble_eq_true rfl) (Nat.le_of_ble_eq_true rfl) (fn_of (s_33 (a2 := 0) hI_113 hA (show 0 ≤ 0 ∧ 0 ≤ 100 from by omega) (by omega) (by omega) (by omega) (fun c_403 hI_404 hF_405 => ?_)))
              intro hG_406
              refine bk_inl ?_
              refine q_aload_n rfl rfl ?_
              refine q_ldc_s rfl rfl rfl (by decide) ?_
              have h_407 := ir_1_4 hI_404
              refine v_cv rfl rfl rfl rfl (by decide) ⟨⟨rfl, rfl⟩, by decide, rfl⟩ (Nat.le_of_ble_eq_true rfl) (Nat.le_of_ble_eq_true rfl) (fn_of (s_11 hI_404 (q := 9) (nt := 1) (by decide) (by decide) (by decide) (fun c_408 hI_409 hF_410 => ?_)))
              intro hG_411
              refine bk_inl ?_
              refine v_iinc (v := v + 1) rfl rfl (by decide) (by omega) ?_
              refine q_goto (t := 6) rfl (by decide) ?_
              have h_412 := ir_1_4 hI_409
              by_cases h_413 : c_408 1 4 = 0
              · skip
                refine Wp_ls [(0, .ref A), (1, .ref 1), (2, vi (v + 1))] (lsub_cons rfl (lsub_cons rfl (lsub_cons rfl lsub_nil))) ?_
                refine gh_stop (s_34_l (sc := sc) (d := dh + 18) (c := c_408) (Z := fun _ => True) hI_409 hA (fun _ _ _ => trivial) 124 c_408 (v + 1) hI_409 (fun a j hm => rfl) ⟨by omega, by omega⟩ (by omega)) (fun hG_414 => ?_)
                refine q_aload_n rfl rfl ?_
                refine v_cv rfl rfl rfl rfl (by decide) ⟨⟨rfl, rfl⟩, by decide, rfl⟩ (Nat.le_of_ble_eq_true rfl) (Nat.le_of_ble_eq_true rfl) ?_
                refine q_aload_n rfl rfl ?_
                refine v_gi (z := 5) (v := (-1)) rfl rfl rfl (by decide) rfl rfl (hc_1) ?_
                refine q_iconst rfl ?_
                refine v_ic_ne_f (t := 12) rfl (by decide) (by decide) ?_
                refine q_iconst rfl ?_
                refine q_goto (t := 13) rfl (by decide) ?_
                refine v_zret rfl rfl (by decide) ?_
                refine bk_inl ?_
                refine v_if_eq_f (t := 136) rfl (by decide) (by decide) ?_
                refine q_aload_n rfl rfl ?_
                refine v_cv rfl rfl rfl rfl (by decide) ⟨⟨rfl, rfl⟩, by decide, rfl⟩ (Nat.le_of_ble_eq_true rfl) (Nat.le_of_ble_eq_true rfl) ?_
                refine q_aload_n rfl rfl ?_
                have kn_415 : Hid (c2 41 3 = e1) := (hFc 41 3 (fun q => q.elim (fun h => absurd h.2 (ni rfl)) (fun q => q.elim (fun h => absurd h.2 (ni rfl)) (fun q => q.elim (fun h => absurd h.2 (ni rfl)) (fun q => q.elim (fun h => absurd h.2 (ni rfl)) (fun q => q.elim (fun h => absurd h.2 (ni rfl)) (fun q => q.elim (fun h => absurd h.2 (ni rfl)) (fun q => q.elim (fun h => absurd h.2 (ni rfl)) (fun q => q.elim (fun h => absurd h (nn rfl)) (fun q => q.elim (fun h => absurd h (nn rfl)) (fun h => absurd h (nn rfl)))))))))))).trans (hr_e1)
                have h_416 : -2147483648 ≤ (H (nx F e1 a)) ∧ (H (nx F e1 a)) ≤ 2147483647 := by rw [← hH (nx F e1 a)]; exact ir_43 hI (nx F e1 a)
                have h_417 := hU (nx F e1 a) (by omega) (by omega)
                have h_418 := hb_or (b := H) (e := e1) (r := (nx F e1 a))
                have h_419 := hb_bd (b := H) (e := e1) (r := (nx F e1 a)) (lo := -2147483648) (hi := 2147483647) ⟨by omega, by omega⟩ (by decide)
                refine v_cv rfl rfl rfl rfl (by decide) ⟨⟨rfl, rfl⟩, by decide, rfl⟩ (Nat.le_of_ble_eq_true rfl) (Nat.le_of_ble_eq_true rfl) (f_154 (e1 := e1) (a9 := a) (B := H) (r8 := (nx F e1 a)) (r := (hb H e1 (nx F e1 a))) hI2 ((hid kn_415)) ((hr_a)) (fun j => (hFc 43 j (fun q => q.elim (fun h => absurd h.1 (nn rfl)) (fun q => q.elim (fun h => absurd h.1 (nn rfl)) (fun q => q.elim (fun h => absurd h.1 (nn rfl)) (fun q => q.elim (fun h => absurd h.1 (nn rfl)) (fun q => q.elim (fun h => absurd h.1 (nn rfl)) (fun q => q.elim (fun h => absurd h.1 (nn rfl)) (fun q => q.elim (fun h => absurd h.1 (nn rfl)) (fun q => q.elim (fun h => absurd h (nn rfl)) (fun q => q.elim (fun h => absurd h (nn rfl)) (fun h => absurd h (nn rfl)))))))))))).trans (hH j)) ((nx_tr hU (by omega) (by omega)).trans (rfl)) rfl (fun c_420 hI_421 hF_422 h_423 => ?_))
                refine bk_inl ?_
                refine q_pop rfl rfl ?_
                refine q_aload_n rfl rfl ?_
                refine v_gi (z := 4) (v := (nx F e1 a)) rfl rfl rfl (by decide) rfl rfl (h_423) ?_
                refine q_aload_n rfl rfl ?_
                have kn_424 : Hid (c_420 41 3 = e1) := (hF_422 41 3 (fun h => absurd h.2 (ni rfl))).trans (hid kn_415)
                refine v_gi (z := 3) (v := e1) rfl rfl rfl (by decide) rfl rfl (hid kn_424) ?_
                refine v_ic_ge_f (t := 20) rfl (by decide) (by omega) ?_
                refine q_iconst rfl ?_
                refine q_goto (t := 21) rfl (by decide) ?_
                refine v_zret rfl rfl (by decide) ?_
                refine bk_inl ?_
                refine v_if_eq_f (t := 136) rfl (by decide) (by decide) ?_
                refine q_aload_n rfl rfl ?_
                have h_425 := wv_bd (b := F) (r := (nx F e1 a)) (l := (ln F e1 (nx F e1 a))) (fun j h1 h2 => ⟨(ln_in (e := e1) (a := (nx F e1 a)) h1 (by omega)).1, (ln_in (e := e1) (a := (nx F e1 a)) h1 (by omega)).2.1⟩)
                have h_426 := wr8_0 (b := F) (r := (nx F e1 a)) (l := (ln F e1 (nx F e1 a))) (by omega) (fun j h1 h2 => ⟨(ln_in (e := e1) (a := (nx F e1 a)) h1 (by omega)).1, (ln_in (e := e1) (a := (nx F e1 a)) h1 (by omega)).2.1⟩) (by omega)
                refine v_cv rfl rfl rfl rfl (by decide) ⟨⟨rfl, rfl⟩, by decide, rfl⟩ (Nat.le_of_ble_eq_true rfl) (Nat.le_of_ble_eq_true rfl) (f_157 (e1 := e1) (a9 := (nx F e1 a)) (B := H) (r8 := (nx F e1 a)) (L8 := (ln F e1 (nx F e1 a))) (W8 := (wv F (nx F e1 a) (ln F e1 (nx F e1 a)))) hI_421 ((hid kn_424)) ((h_423)) (fun j => ((hF_422 43 j (fun h => absurd h.1 (nn rfl))).trans (hFc 43 j (fun q => q.elim (fun h => absurd h.1 (nn rfl)) (fun q => q.elim (fun h => absurd h.1 (nn rfl)) (fun q => q.elim (fun h => absurd h.1 (nn rfl)) (fun q => q.elim (fun h => absurd h.1 (nn rfl)) (fun q => q.elim (fun h => absurd h.1 (nn rfl)) (fun q => q.elim (fun h => absurd h.1 (nn rfl)) (fun q => q.elim (fun h => absurd h.1 (nn rfl)) (fun q => q.elim (fun h => absurd h (nn rfl)) (fun q => q.elim (fun h => absurd h (nn rfl)) (fun h => absurd h (nn rfl))))))))))))).trans (hH j)) ((nx_tr hU (by omega) (by omega)).trans ((nx_z (by omega)))) ((ln_tr hU (by omega) (by omega)).trans (rfl)) ((wv_tr hU (by omega) (by omega) (fun j h1 h2 => ⟨(ln_in (e := e1) (a := (nx F e1 a)) h1 (by omega)).1, (ln_in (e := e1) (a := (nx F e1 a)) h1 (by omega)).2.1⟩)).trans (rfl)) (fun c_427 hI_428 hF_429 hz_430 => ?_))
                refine bk_inl ?_
                refine q_istore_n rfl (by decide) ?_
                refine q_iload_n rfl rfl ?_
                refine q_call rfl rfl rfl rfl ?_
                refine q_iload_n rfl rfl ?_
                refine q_ldc_s rfl rfl rfl (by decide) ?_
                refine q_call rfl rfl rfl rfl (s_158_16 ?_)
                refine bk_inl ?_
                refine v_ic_eq_t (t := 36) rfl (by decide) (by omega) ?_
                refine q_iconst rfl ?_
                refine q_goto (t := 41) rfl (by decide) ?_
                refine v_zret rfl rfl (by decide) ?_
                refine bk_inl ?_
                refine v_if_ne_t (t := 82) rfl (by decide) (by decide) ?_
                refine q_iload_n rfl rfl ?_
                refine v_bip rfl (by decide) ?_
                refine v_ic_eq_f (t := 96) rfl (by decide) (by omega) ?_
                refine q_aload_n rfl rfl ?_
                refine q_iload_n rfl rfl ?_
                refine v_cv rfl rfl rfl rfl (by decide) ⟨⟨rfl, rfl⟩, by decide, rfl⟩ (Nat.le_of_ble_eq_true rfl) (Nat.le_of_ble_eq_true rfl) ?_
                refine q_iload_n rfl rfl ?_
                refine q_ldc_s rfl rfl rfl (by decide) ?_
                refine q_call rfl rfl rfl rfl (s_158_16 ?_)
                refine bk_inl ?_
                refine v_ic_ne_f (t := 26) rfl (by decide) (by omega) ?_
                refine q_aload_n rfl rfl ?_
                have kn_431 : Hid (c_420 41 16 = jr) := (hF_422 41 16 (fun h => absurd h.2 (ni rfl))).trans (hr_jr)
                have kn_432 : Hid (c_427 41 16 = jr) := (hF_429 41 16 (fun h => absurd h.2 (ni rfl))).trans (hid kn_431)
                refine v_gi (z := 16) (v := jr) rfl rfl rfl (by decide) rfl rfl (hid kn_432) ?_
                refine v_bip rfl (by decide) ?_
                refine v_ic_ne_t (t := 22) rfl (by decide) (by omega) ?_
                refine q_iconst rfl ?_
                refine q_goto (t := 73) rfl (by decide) ?_
                refine v_zret rfl rfl (by decide) ?_
                refine bk_inl ?_
                refine v_if_eq_t (t := 105) rfl (by decide) (by decide) ?_
                refine q_aload_n rfl rfl ?_
                refine v_cv rfl rfl rfl rfl (by decide) ⟨⟨rfl, rfl⟩, by decide, rfl⟩ (Nat.le_of_ble_eq_true rfl) (Nat.le_of_ble_eq_true rfl) ?_
                refine q_aload_n rfl rfl ?_
                have kn_433 : Hid (c_420 41 5 = (-1)) := (hF_422 41 5 (fun h => absurd h.2 (ni rfl))).trans (hc_1)
                have kn_434 : Hid (c_427 41 5 = (-1)) := (hF_429 41 5 (fun h => absurd h.2 (ni rfl))).trans (hid kn_433)
                refine v_gi (z := 5) (v := (-1)) rfl rfl rfl (by decide) rfl rfl (hid kn_434) ?_
                refine q_iconst rfl ?_
                refine v_ic_ne_f (t := 12) rfl (by decide) (by decide) ?_
                refine q_iconst rfl ?_
                refine q_goto (t := 13) rfl (by decide) ?_
                refine v_zret rfl rfl (by decide) ?_
                refine bk_inl ?_
                refine v_if_ne_t (t := 115) rfl (by decide) (by decide) ?_
                refine q_aload_n rfl rfl ?_
                have kn_435 : Hid (c_427 41 3 = e1) := (hF_429 41 3 (fun h => absurd h.2 (ni rfl))).trans (hid kn_424)
                refine v_cv rfl rfl rfl rfl (by decide) ⟨⟨rfl, rfl⟩, by decide, rfl⟩ (Nat.le_of_ble_eq_true rfl) (Nat.le_of_ble_eq_true rfl) (f_159 (e1 := e1) (a9 := (nx F e1 a)) (B := H) (L8 := (ln F e1 (nx F e1 a))) hI_428 ((hid kn_435)) ((hz_430)) (fun j => ((hF_429 43 j (fun h => absurd h.1 (nn rfl))).trans ((hF_422 43 j (fun h => absurd h.1 (nn rfl))).trans (hFc 43 j (fun q => q.elim (fun h => absurd h.1 (nn rfl)) (fun q => q.elim (fun h => absurd h.1 (nn rfl)) (fun q => q.elim (fun h => absurd h.1 (nn rfl)) (fun q => q.elim (fun h => absurd h.1 (nn rfl)) (fun q => q.elim (fun h => absurd h.1 (nn rfl)) (fun q => q.elim (fun h => absurd h.1 (nn rfl)) (fun q => q.elim (fun h => absurd h.1 (nn rfl)) (fun q => q.elim (fun h => absurd h (nn rfl)) (fun q => q.elim (fun h => absurd h (nn rfl)) (fun h => absurd h (nn rfl)))))))))))))).trans (hH j)) ((ln_tr hU (by omega) (by omega)).trans (rfl)) (fun c_436 hI_437 hF_438 hz_439 => ?_))
                refine bk_inl ?_
                refine q_aload_n rfl rfl ?_
                refine q_iload_n rfl rfl ?_
                have hw_440 : (wv F (nx F e1 a) (ln F e1 (nx F e1 a))) = 10290 := by omega
                rw [hw_440]
                have kn_441 : Hid (c_112 1 1 = e1) := (hF_114 1 1 (fun q => q.elim (fun h => absurd h.2 (ni rfl)) (fun q => q.elim (fun h => absurd h.2 (ni rfl)) (fun h => absurd h.2 (ni rfl))))).trans (hid kn_91)
                have kn_442 : Hid (c_436 41 3 = e1) := (hF_438 41 3 (fun h => absurd h.2 (ni rfl))).trans (hid kn_435)
                have kn_443 : Hid (c_436 41 16 = jr) := (hF_438 41 16 (fun h => absurd h.2 (ni rfl))).trans (hid kn_432)
                have kn_444 : Hid (c_420 41 17 = st) := (hF_422 41 17 (fun h => absurd h.2 (ni rfl))).trans (hr_st)
                have kn_445 : Hid (c_427 41 17 = st) := (hF_429 41 17 (fun h => absurd h.2 (ni rfl))).trans (hid kn_444)
                have kn_446 : Hid (c_436 41 17 = st) := (hF_438 41 17 (fun h => absurd h.2 (ni rfl))).trans (hid kn_445)
                have kn_447 : Hid (c_420 41 18 = si) := (hF_422 41 18 (fun h => absurd h.2 (ni rfl))).trans (hr_si)
                have kn_448 : Hid (c_427 41 18 = si) := (hF_429 41 18 (fun h => absurd h.2 (ni rfl))).trans (hid kn_447)
                have kn_449 : Hid (c_436 41 18 = si) := (hF_438 41 18 (fun h => absurd h.2 (ni rfl))).trans (hid kn_448)
                have kn_450 : Hid (c_27 A 3 = du) := (hF_29 A 3 (fun h => absurd h.1 (np0 hA rfl))).trans (hg_du)
                have kn_451 : Hid (c_87 A 3 = du) := (hF_89 A 3 (fun h => absurd h.1 (np0 hA rfl))).trans (hid kn_450)
                have kn_452 : Hid (c_112 A 3 = du) := (hF_114 A 3 (fun q => q.elim (fun h => absurd h.1 (np0 hA rfl)) (fun q => q.elim (fun h => absurd h.1 (np0 hA rfl)) (fun h => absurd h.1 (np0 hA rfl))))).trans (hid kn_451)
                have kn_453 : Hid (c_420 41 19 = du) := (hF_422 41 19 (fun h => absurd h.2 (ni rfl))).trans (hr_du)
                have kn_454 : Hid (c_427 41 19 = du) := (hF_429 41 19 (fun h => absurd h.2 (ni rfl))).trans (hid kn_453)
                have kn_455 : Hid (c_436 41 19 = du) := (hF_438 41 19 (fun h => absurd h.2 (ni rfl))).trans (hid kn_454)
                have h_456 : c_112 1 4 = 0 := (hz_118)
                have h_457 : c_112 1 2 = (ln F e1 (nx F e1 a)) := (hz_117)
                have h_458 : c_112 1 5 = (-1) := (hz_119)
                have kn_459 : Hid (c_436 41 5 = (-1)) := (hF_438 41 5 (fun h => absurd h.2 (ni rfl))).trans (hid kn_434)
                have h_460 : c_436 41 5 = (-1) := (hid kn_459)
                have h_461 : c_436 41 4 = (ln F e1 (nx F e1 a)) := (hz_439)
                have h_462 := ir_41_6 hI2
                have kn_463 : Hid (c_420 41 6 = c2 41 6) := hF_422 41 6 (fun h => absurd h.2 (ni rfl))
                have kn_464 : Hid (c_427 41 6 = c2 41 6) := (hF_429 41 6 (fun h => absurd h.2 (ni rfl))).trans (hid kn_463)
                have kn_465 : Hid (c_436 41 6 = c2 41 6) := (hF_438 41 6 (fun h => absurd h.2 (ni rfl))).trans (hid kn_464)
                have h_466 : c_436 41 6 = c2 41 6 := (hid kn_465)
                have hA_467 : Ae (4 * jr) (c_112 (A + 1)) (c_436 44) := ae_fr hrl0 (fun j => (hF_114 (A + 1) j (fun q => q.elim (fun h => absurd h.1 (np hA rfl rfl)) (fun q => q.elim (fun h => absurd h.1 (np hA rfl rfl)) (fun h => absurd h.1 (np hA rfl rfl))))).trans ((hF_89 (A + 1) j (fun h => absurd h.1 (np hA rfl rfl))).trans (hF_29 (A + 1) j (fun h => absurd h.1 (np hA rfl rfl))))) (fun j => (hF_438 44 j (fun h => absurd h.1 (nn rfl))).trans ((hF_429 44 j (fun h => absurd h.1 (nn rfl))).trans (hF_422 44 j (fun h => absurd h.1 (nn rfl)))))
                have hA_468 : Ae (3 * st) (c_112 (A + 2)) (c_436 45) := ae_fr hrl1 (fun j => (hF_114 (A + 2) j (fun q => q.elim (fun h => absurd h.1 (np hA rfl rfl)) (fun q => q.elim (fun h => absurd h.1 (np hA rfl rfl)) (fun h => absurd h.1 (np hA rfl rfl))))).trans ((hF_89 (A + 2) j (fun h => absurd h.1 (np hA rfl rfl))).trans (hF_29 (A + 2) j (fun h => absurd h.1 (np hA rfl rfl))))) (fun j => (hF_438 45 j (fun h => absurd h.1 (nn rfl))).trans ((hF_429 45 j (fun h => absurd h.1 (nn rfl))).trans (hF_422 45 j (fun h => absurd h.1 (nn rfl)))))
                have hA_469 : Ae si (c_112 (A + 3)) (c_436 46) := ae_fr hrl2 (fun j => (hF_114 (A + 3) j (fun q => q.elim (fun h => absurd h.1 (np hA rfl rfl)) (fun q => q.elim (fun h => absurd h.1 (np hA rfl rfl)) (fun h => absurd h.1 (np hA rfl rfl))))).trans ((hF_89 (A + 3) j (fun h => absurd h.1 (np hA rfl rfl))).trans (hF_29 (A + 3) j (fun h => absurd h.1 (np hA rfl rfl))))) (fun j => (hF_438 46 j (fun h => absurd h.1 (nn rfl))).trans ((hF_429 46 j (fun h => absurd h.1 (nn rfl))).trans (hF_422 46 j (fun h => absurd h.1 (nn rfl)))))
                refine v_cv rfl rfl rfl rfl (by decide) ⟨⟨rfl, rfl⟩, by decide, rfl⟩ (Nat.le_of_ble_eq_true rfl) (Nat.le_of_ble_eq_true rfl) (L_33a_0 (m := c_112) (e1 := e1) (jr := jr) (st := st) (si := si) (du := du) (F := F) (H := H) hI_437 hI_113 hI_404 hA (by omega) ((hid kn_441)) ((hid kn_442)) ((hid kn_391)) ((hid kn_443)) ((hid kn_397)) ((hid kn_446)) ((hid kn_401)) ((hid kn_449)) ((hid kn_452)) ((hid kn_455)) (fun j => ((hF_114 2 j (fun q => q.elim (fun h => absurd h.1 (nn rfl)) (fun q => q.elim (fun h => absurd h.1 (nn rfl)) (fun h => absurd h.1 (nn rfl))))).trans ((hF_89 2 j (fun h => absurd h.1 (nn rfl))).trans ((hF_29 2 j (fun h => absurd h.1 (nn rfl))).trans (hFm 2 j (fun q => q.elim (fun h => absurd h.1 (nn rfl)) (fun q => q.elim (fun h => absurd h.1 (nn rfl)) (fun q => q.elim (fun h => absurd h.1 (nn rfl)) (fun q => q.elim (fun h => absurd h.1 (pn0 hA rfl)) (fun q => q.elim (fun h => absurd h.1 (pn0 hA rfl)) (fun q => q.elim (fun h => absurd h.1 (pn0 hA rfl)) (fun q => q.elim (fun h => absurd h.1 (pn0 hA rfl)) (fun q => q.elim (fun h => absurd h (pn hA rfl rfl)) (fun q => q.elim (fun h => absurd h (pn hA rfl rfl)) (fun q => q.elim (fun h => absurd h (pn hA rfl rfl)) (fun q => q.elim (fun h => absurd h.1 (pn0 hA rfl)) (fun q => q.elim (fun h => absurd h.1 (pn0 hA rfl)) (fun q => q.elim (fun h => absurd h (pn hA rfl rfl)) (fun h => absurd h.1 (pn hA rfl rfl))))))))))))))))))).trans (hF j)) (fun j => ((hF_438 43 j (fun h => absurd h.1 (nn rfl))).trans ((hF_429 43 j (fun h => absurd h.1 (nn rfl))).trans ((hF_422 43 j (fun h => absurd h.1 (nn rfl))).trans (hFc 43 j (fun q => q.elim (fun h => absurd h.1 (nn rfl)) (fun q => q.elim (fun h => absurd h.1 (nn rfl)) (fun q => q.elim (fun h => absurd h.1 (nn rfl)) (fun q => q.elim (fun h => absurd h.1 (nn rfl)) (fun q => q.elim (fun h => absurd h.1 (nn rfl)) (fun q => q.elim (fun h => absurd h.1 (nn rfl)) (fun q => q.elim (fun h => absurd h.1 (nn rfl)) (fun q => q.elim (fun h => absurd h (nn rfl)) (fun q => q.elim (fun h => absurd h (nn rfl)) (fun h => absurd h (nn rfl))))))))))))))).trans (hH j)) hU (by unfold Rt; omega) (ae_le hA_467 (by omega)) (ae_le hA_468 (by omega)) (ae_le hA_469 (by omega)) hG_406 (fun c_470 hI_471 hF_472 hR_474 h_475 h_476 h_477 h_478 hA_479 hA_480 hA_481 => ?_))
                refine bk_inl ?_
                have h_482 := ir_41_16 hI_471
                have h_483 := ir_p0_0 hI_404 hA
                have h_484 := ir_41_17 hI_471
                have h_485 := ir_p0_1 hI_404 hA
                have h_486 := ir_41_18 hI_471
                have h_487 := ir_p0_2 hI_404 hA
                have h_488 := ir_41_19 hI_471
                have h_489 := ir_p0_3 hI_404 hA
                refine q_aload_n rfl rfl ?_
                refine v_bip rfl (by decide) ?_
                have kn_490 : Hid (c_403 1 1 = e1) := (hF_405 1 1 (fun q => q.elim (fun h => absurd h.2 (ni rfl)) (fun q => q.elim (fun h => absurd h.2 (ni rfl)) (fun q => q.elim (fun h => absurd h.2 (ni rfl)) (fun q => q.elim (fun h => absurd h.1 (pn0 hA rfl)) (fun q => q.elim (fun h => absurd h.1 (pn0 hA rfl)) (fun q => q.elim (fun h => absurd h.1 (pn0 hA rfl)) (fun q => q.elim (fun h => absurd h.1 (pn0 hA rfl)) (fun q => q.elim (fun h => absurd h (pn hA rfl rfl)) (fun q => q.elim (fun h => absurd h (pn hA rfl rfl)) (fun h => absurd h (pn hA rfl rfl)))))))))))).trans (hid kn_441)
                have kn_491 : Hid (c_470 41 3 = e1) := (hF_472 41 3 (fun q => q.elim (fun h => absurd h.2 (ni rfl)) (fun q => q.elim (fun h => absurd h.2 (ni rfl)) (fun q => q.elim (fun h => absurd h.2 (ni rfl)) (fun q => q.elim (fun h => absurd h.2 (ni rfl)) (fun q => q.elim (fun h => absurd h.2 (ni rfl)) (fun q => q.elim (fun h => absurd h.2 (ni rfl)) (fun q => q.elim (fun h => absurd h.2 (ni rfl)) (fun q => q.elim (fun h => absurd h (nn rfl)) (fun q => q.elim (fun h => absurd h (nn rfl)) (fun h => absurd h (nn rfl)))))))))))).trans (hid kn_442)
                have h_492 := ir_1_2 hI_404
                refine v_cv rfl rfl rfl rfl (by decide) ⟨⟨rfl, rfl⟩, by decide, rfl⟩ (Nat.le_of_ble_eq_true rfl) (Nat.le_of_ble_eq_true rfl) (L_11_9 (m := c_403) (e1 := e1) (a9 := c_403 1 2) (F := F) (H := H) hI_471 hI_404 hI_409 ((hid kn_490)) ((hid kn_491)) (rfl) (fun j => ((hF_405 2 j (fun q => q.elim (fun h => absurd h.1 (nn rfl)) (fun q => q.elim (fun h => absurd h.1 (nn rfl)) (fun q => q.elim (fun h => absurd h.1 (nn rfl)) (fun q => q.elim (fun h => absurd h.1 (pn0 hA rfl)) (fun q => q.elim (fun h => absurd h.1 (pn0 hA rfl)) (fun q => q.elim (fun h => absurd h.1 (pn0 hA rfl)) (fun q => q.elim (fun h => absurd h.1 (pn0 hA rfl)) (fun q => q.elim (fun h => absurd h (pn hA rfl rfl)) (fun q => q.elim (fun h => absurd h (pn hA rfl rfl)) (fun h => absurd h (pn hA rfl rfl)))))))))))).trans ((hF_114 2 j (fun q => q.elim (fun h => absurd h.1 (nn rfl)) (fun q => q.elim (fun h => absurd h.1 (nn rfl)) (fun h => absurd h.1 (nn rfl))))).trans ((hF_89 2 j (fun h => absurd h.1 (nn rfl))).trans ((hF_29 2 j (fun h => absurd h.1 (nn rfl))).trans (hFm 2 j (fun q => q.elim (fun h => absurd h.1 (nn rfl)) (fun q => q.elim (fun h => absurd h.1 (nn rfl)) (fun q => q.elim (fun h => absurd h.1 (nn rfl)) (fun q => q.elim (fun h => absurd h.1 (pn0 hA rfl)) (fun q => q.elim (fun h => absurd h.1 (pn0 hA rfl)) (fun q => q.elim (fun h => absurd h.1 (pn0 hA rfl)) (fun q => q.elim (fun h => absurd h.1 (pn0 hA rfl)) (fun q => q.elim (fun h => absurd h (pn hA rfl rfl)) (fun q => q.elim (fun h => absurd h (pn hA rfl rfl)) (fun q => q.elim (fun h => absurd h (pn hA rfl rfl)) (fun q => q.elim (fun h => absurd h.1 (pn0 hA rfl)) (fun q => q.elim (fun h => absurd h.1 (pn0 hA rfl)) (fun q => q.elim (fun h => absurd h (pn hA rfl rfl)) (fun h => absurd h.1 (pn hA rfl rfl)))))))))))))))))))).trans (hF j)) (fun j => ((hF_472 43 j (fun q => q.elim (fun h => absurd h.1 (nn rfl)) (fun q => q.elim (fun h => absurd h.1 (nn rfl)) (fun q => q.elim (fun h => absurd h.1 (nn rfl)) (fun q => q.elim (fun h => absurd h.1 (nn rfl)) (fun q => q.elim (fun h => absurd h.1 (nn rfl)) (fun q => q.elim (fun h => absurd h.1 (nn rfl)) (fun q => q.elim (fun h => absurd h.1 (nn rfl)) (fun q => q.elim (fun h => absurd h (nn rfl)) (fun q => q.elim (fun h => absurd h (nn rfl)) (fun h => absurd h (nn rfl)))))))))))).trans ((hF_438 43 j (fun h => absurd h.1 (nn rfl))).trans ((hF_429 43 j (fun h => absurd h.1 (nn rfl))).trans ((hF_422 43 j (fun h => absurd h.1 (nn rfl))).trans (hFc 43 j (fun q => q.elim (fun h => absurd h.1 (nn rfl)) (fun q => q.elim (fun h => absurd h.1 (nn rfl)) (fun q => q.elim (fun h => absurd h.1 (nn rfl)) (fun q => q.elim (fun h => absurd h.1 (nn rfl)) (fun q => q.elim (fun h => absurd h.1 (nn rfl)) (fun q => q.elim (fun h => absurd h.1 (nn rfl)) (fun q => q.elim (fun h => absurd h.1 (nn rfl)) (fun q => q.elim (fun h => absurd h (nn rfl)) (fun q => q.elim (fun h => absurd h (nn rfl)) (fun h => absurd h (nn rfl)))))))))))))))).trans (hH j)) hU hR_474 hG_411 (fun c_493 hI_494 hF_495 hR_497 h_498 => ?_))
                refine bk_inl ?_
                have h_499 := ir_1_2 hI_409
                refine v_iinc (v := v + 1) rfl rfl (by decide) (by omega) ?_
                refine q_goto (t := 44) rfl (by decide) ?_
                refine Wp_ls [(0, .ref 41), (1, vi a1), (2, vi (v + 1))] (lsub_cons rfl (lsub_cons rfl (lsub_cons rfl lsub_nil))) ?_
                have h_500 := ir_41_4 hI_494
                have h_501 := ir_1_5 hI_409
                have h_502 := ir_41_5 hI_494
                have h_503 := ir_41_6 hI_494
                have h_504 := rt_ok hR_497 (by omega)
                have hro_hR_497 := rt_ok hR_497 (by omega)
                have kn_505 : Hid (c_408 A 0 = c_403 A 0) := hF_410 A 0 (fun q => q.elim (fun h => absurd h.1 (np0 hA rfl)) (fun q => q.elim (fun h => absurd h.1 (np0 hA rfl)) (fun h => absurd h.1 (np0 hA rfl))))
                have kn_506 : Hid (c_493 41 16 = c_470 41 16) := hF_495 41 16 (fun q => q.elim (fun h => absurd h.2 (ni rfl)) (fun q => q.elim (fun h => absurd h.2 (ni rfl)) (fun h => absurd h.2 (ni rfl))))
                have kn_507 : Hid (c_408 A 1 = c_403 A 1) := hF_410 A 1 (fun q => q.elim (fun h => absurd h.1 (np0 hA rfl)) (fun q => q.elim (fun h => absurd h.1 (np0 hA rfl)) (fun h => absurd h.1 (np0 hA rfl))))
                have kn_508 : Hid (c_493 41 17 = c_470 41 17) := hF_495 41 17 (fun q => q.elim (fun h => absurd h.2 (ni rfl)) (fun q => q.elim (fun h => absurd h.2 (ni rfl)) (fun h => absurd h.2 (ni rfl))))
                have kn_509 : Hid (c_408 A 2 = c_403 A 2) := hF_410 A 2 (fun q => q.elim (fun h => absurd h.1 (np0 hA rfl)) (fun q => q.elim (fun h => absurd h.1 (np0 hA rfl)) (fun h => absurd h.1 (np0 hA rfl))))
                have kn_510 : Hid (c_493 41 18 = c_470 41 18) := hF_495 41 18 (fun q => q.elim (fun h => absurd h.2 (ni rfl)) (fun q => q.elim (fun h => absurd h.2 (ni rfl)) (fun h => absurd h.2 (ni rfl))))
                have kn_511 : Hid (c_408 A 3 = c_403 A 3) := hF_410 A 3 (fun q => q.elim (fun h => absurd h.1 (np0 hA rfl)) (fun q => q.elim (fun h => absurd h.1 (np0 hA rfl)) (fun h => absurd h.1 (np0 hA rfl))))
                have kn_512 : Hid (c_493 41 19 = c_470 41 19) := hF_495 41 19 (fun q => q.elim (fun h => absurd h.2 (ni rfl)) (fun q => q.elim (fun h => absurd h.2 (ni rfl)) (fun h => absurd h.2 (ni rfl))))
                have hA_513 : Ae (4 * c_470 41 16) (c_408 (A + 1)) (c_493 44) := ae_fr hA_479 (fun j => hF_410 (A + 1) j (fun q => q.elim (fun h => absurd h.1 (np hA rfl rfl)) (fun q => q.elim (fun h => absurd h.1 (np hA rfl rfl)) (fun h => absurd h.1 (np hA rfl rfl))))) (fun j => hF_495 44 j (fun q => q.elim (fun h => absurd h.1 (nn rfl)) (fun q => q.elim (fun h => absurd h.1 (nn rfl)) (fun h => absurd h.1 (nn rfl)))))
                have hA_514 : Ae (4 * c_403 A 0) (c_408 (A + 1)) (c_493 44) := ae_le hA_513 (by omega)
                have hA_515 : Ae (3 * c_470 41 17) (c_408 (A + 2)) (c_493 45) := ae_fr hA_480 (fun j => hF_410 (A + 2) j (fun q => q.elim (fun h => absurd h.1 (np hA rfl rfl)) (fun q => q.elim (fun h => absurd h.1 (np hA rfl rfl)) (fun h => absurd h.1 (np hA rfl rfl))))) (fun j => hF_495 45 j (fun q => q.elim (fun h => absurd h.1 (nn rfl)) (fun q => q.elim (fun h => absurd h.1 (nn rfl)) (fun h => absurd h.1 (nn rfl)))))
                have hA_516 : Ae (3 * c_403 A 1) (c_408 (A + 2)) (c_493 45) := ae_le hA_515 (by omega)
                have hA_517 : Ae (c_470 41 18) (c_408 (A + 3)) (c_493 46) := ae_fr hA_481 (fun j => hF_410 (A + 3) j (fun q => q.elim (fun h => absurd h.1 (np hA rfl rfl)) (fun q => q.elim (fun h => absurd h.1 (np hA rfl rfl)) (fun h => absurd h.1 (np hA rfl rfl))))) (fun j => hF_495 46 j (fun q => q.elim (fun h => absurd h.1 (nn rfl)) (fun q => q.elim (fun h => absurd h.1 (nn rfl)) (fun h => absurd h.1 (nn rfl)))))
                have hA_518 : Ae (c_403 A 2) (c_408 (A + 3)) (c_493 46) := ae_le hA_517 (by omega)
                exact ih c_493 c_408 (v + 1) (c_408 1 2) (c_403 A 0) (c_403 A 1) (c_403 A 2) (c_403 A 3) hI_494 (fun a j hm => (hF_495 a j (fun q => q.elim (fun h => hm (Or.inl h)) (fun q => q.elim (fun h => hm (Or.inr (Or.inl h))) (fun h => hm (Or.inr (Or.inr (Or.inl h))))))).trans ((hF_472 a j (fun q => q.elim (fun h => hm (Or.inl h)) (fun q => q.elim (fun h => hm (Or.inr (Or.inl h))) (fun q => q.elim (fun h => hm (Or.inr (Or.inr (Or.inl h)))) (fun q => q.elim (fun h => hm (Or.inr (Or.inr (Or.inr (Or.inl h))))) (fun q => q.elim (fun h => hm (Or.inr (Or.inr (Or.inr (Or.inr (Or.inl h)))))) (fun q => q.elim (fun h => hm (Or.inr (Or.inr (Or.inr (Or.inr (Or.inr (Or.inl h))))))) (fun q => q.elim (fun h => hm (Or.inr (Or.inr (Or.inr (Or.inr (Or.inr (Or.inr (Or.inl h)))))))) (fun q => q.elim (fun h => hm (Or.inr (Or.inr (Or.inr (Or.inr (Or.inr (Or.inr (Or.inr (Or.inl h))))))))) (fun q => q.elim (fun h => hm (Or.inr (Or.inr (Or.inr (Or.inr (Or.inr (Or.inr (Or.inr (Or.inr (Or.inl h)))))))))) (fun h => hm (Or.inr (Or.inr (Or.inr (Or.inr (Or.inr (Or.inr (Or.inr (Or.inr (Or.inr h)))))))))))))))))))).trans ((hF_438 a j (fun h => hm (Or.inl h))).trans ((hF_429 a j (fun h => hm (Or.inl h))).trans ((hF_422 a j (fun h => hm (Or.inl h))).trans (hFc a j (fun q => q.elim (fun h => hm (Or.inl h)) (fun q => q.elim (fun h => hm (Or.inr (Or.inl h))) (fun q => q.elim (fun h => hm (Or.inr (Or.inr (Or.inl h)))) (fun q => q.elim (fun h => hm (Or.inr (Or.inr (Or.inr (Or.inl h))))) (fun q => q.elim (fun h => hm (Or.inr (Or.inr (Or.inr (Or.inr (Or.inl h)))))) (fun q => q.elim (fun h => hm (Or.inr (Or.inr (Or.inr (Or.inr (Or.inr (Or.inl h))))))) (fun q => q.elim (fun h => hm (Or.inr (Or.inr (Or.inr (Or.inr (Or.inr (Or.inr (Or.inl h)))))))) (fun q => q.elim (fun h => hm (Or.inr (Or.inr (Or.inr (Or.inr (Or.inr (Or.inr (Or.inr (Or.inl h))))))))) (fun q => q.elim (fun h => hm (Or.inr (Or.inr (Or.inr (Or.inr (Or.inr (Or.inr (Or.inr (Or.inr (Or.inl h)))))))))) (fun h => hm (Or.inr (Or.inr (Or.inr (Or.inr (Or.inr (Or.inr (Or.inr (Or.inr (Or.inr h))))))))))))))))))))))))) hI_409 (fun a j hm => (hF_410 a j (fun q => q.elim (fun h => hm (Or.inl h)) (fun q => q.elim (fun h => hm (Or.inr (Or.inl h))) (fun h => hm (Or.inr (Or.inr (Or.inl h))))))).trans ((hF_405 a j (fun q => q.elim (fun h => hm (Or.inl h)) (fun q => q.elim (fun h => hm (Or.inr (Or.inl h))) (fun q => q.elim (fun h => hm (Or.inr (Or.inr (Or.inl h)))) (fun q => q.elim (fun h => hm (Or.inr (Or.inr (Or.inr (Or.inl h))))) (fun q => q.elim (fun h => hm (Or.inr (Or.inr (Or.inr (Or.inr (Or.inl h)))))) (fun q => q.elim (fun h => hm (Or.inr (Or.inr (Or.inr (Or.inr (Or.inr (Or.inl h))))))) (fun q => q.elim (fun h => hm (Or.inr (Or.inr (Or.inr (Or.inr (Or.inr (Or.inr (Or.inl h)))))))) (fun q => q.elim (fun h => hm (Or.inr (Or.inr (Or.inr (Or.inr (Or.inr (Or.inr (Or.inr (Or.inl h))))))))) (fun q => q.elim (fun h => hm (Or.inr (Or.inr (Or.inr (Or.inr (Or.inr (Or.inr (Or.inr (Or.inr (Or.inl h)))))))))) (fun h => hm (Or.inr (Or.inr (Or.inr (Or.inr (Or.inr (Or.inr (Or.inr (Or.inr (Or.inr (Or.inl h))))))))))))))))))))).trans ((hF_114 a j (fun q => q.elim (fun h => hm (Or.inl h)) (fun q => q.elim (fun h => hm (Or.inr (Or.inl h))) (fun h => hm (Or.inr (Or.inr (Or.inl h))))))).trans ((hF_89 a j (fun h => hm (Or.inl h))).trans ((hF_29 a j (fun h => hm (Or.inl h))).trans (hFm a j (fun q => q.elim (fun h => hm (Or.inl h)) (fun q => q.elim (fun h => hm (Or.inr (Or.inl h))) (fun q => q.elim (fun h => hm (Or.inr (Or.inr (Or.inl h)))) (fun q => q.elim (fun h => hm (Or.inr (Or.inr (Or.inr (Or.inl h))))) (fun q => q.elim (fun h => hm (Or.inr (Or.inr (Or.inr (Or.inr (Or.inl h)))))) (fun q => q.elim (fun h => hm (Or.inr (Or.inr (Or.inr (Or.inr (Or.inr (Or.inl h))))))) (fun q => q.elim (fun h => hm (Or.inr (Or.inr (Or.inr (Or.inr (Or.inr (Or.inr (Or.inl h)))))))) (fun q => q.elim (fun h => hm (Or.inr (Or.inr (Or.inr (Or.inr (Or.inr (Or.inr (Or.inr (Or.inl h))))))))) (fun q => q.elim (fun h => hm (Or.inr (Or.inr (Or.inr (Or.inr (Or.inr (Or.inr (Or.inr (Or.inr (Or.inl h)))))))))) (fun q => q.elim (fun h => hm (Or.inr (Or.inr (Or.inr (Or.inr (Or.inr (Or.inr (Or.inr (Or.inr (Or.inr (Or.inl h))))))))))) (fun q => q.elim (fun h => hm (Or.inr (Or.inr (Or.inr (Or.inr (Or.inr (Or.inr (Or.inr (Or.inr (Or.inr (Or.inr (Or.inl h)))))))))))) (fun q => q.elim (fun h => hm (Or.inr (Or.inr (Or.inr (Or.inr (Or.inr (Or.inr (Or.inr (Or.inr (Or.inr (Or.inr (Or.inr (Or.inl h))))))))))))) (fun q => q.elim (fun h => hm (Or.inr (Or.inr (Or.inr (Or.inr (Or.inr (Or.inr (Or.inr (Or.inr (Or.inr (Or.inr (Or.inr (Or.inr (Or.inl h)))))))))))))) (fun h => hm (Or.inr (Or.inr (Or.inr (Or.inr (Or.inr (Or.inr (Or.inr (Or.inr (Or.inr (Or.inr (Or.inr (Or.inr (Or.inr h))))))))))))))))))))))))))))))))) ⟨by omega, by omega⟩ ⟨by omega, by omega⟩ ⟨by omega, by omega⟩ ⟨by omega, by omega⟩ ⟨by omega, by omega⟩ ⟨by omega, by omega⟩ (rfl) (hro_hR_497.2.2.1) ((hid kn_505)) ((show _ = c_470 41 16 from (hid kn_506)).trans (by omega)) ((hid kn_507)) ((show _ = c_470 41 17 from (hid kn_508)).trans (by omega)) ((hid kn_509)) ((show _ = c_470 41 18 from (hid kn_510)).trans (by omega)) ((hid kn_511)) ((show _ = c_470 41 19 from (hid kn_512)).trans (by omega)) ((show _ = c_408 1 4 from rfl).trans (by omega)) (hro_hR_497.2.1) ((show _ = c_408 1 5 from rfl).trans (by omega)) (ae_le hA_514 (by omega)) (ae_le hA_516 (by omega)) (ae_le hA_518 (by omega)) hG_414 (by omega)
              · skip
                refine q_iload_n rfl rfl ?_
                refine v_bip rfl (by decide) ?_
                refine v_ic_gt_f (t := 85) rfl (by decide) (by omega) ?_
                refine q_aload_n rfl rfl ?_
                refine v_cv rfl rfl rfl rfl (by decide) ⟨⟨rfl, rfl⟩, by decide, rfl⟩ (Nat.le_of_ble_eq_true rfl) (Nat.le_of_ble_eq_true rfl) ?_
                refine q_aload_n rfl rfl ?_
                refine v_cv rfl rfl rfl rfl (by decide) ⟨⟨rfl, rfl⟩, by decide, rfl⟩ (Nat.le_of_ble_eq_true rfl) (Nat.le_of_ble_eq_true rfl) ?_
                refine q_aload_n rfl rfl ?_
                refine v_gi (z := 4) (v := c_408 1 4) rfl rfl rfl (by decide) rfl rfl rfl ?_
                refine v_if_ne_t (t := 11) rfl (by decide) (by omega) ?_
                refine q_iconst rfl ?_
                refine v_zret rfl rfl (by decide) ?_
                refine bk_inl ?_
                refine v_if_eq_t (t := 22) rfl (by decide) (by decide) ?_
                refine q_iconst rfl ?_
                refine v_zret rfl rfl (by decide) ?_
                refine bk_inl ?_
                refine v_if_eq_t (t := 85) rfl (by decide) (by decide) ?_
                refine q_vret rfl rfl ?_
                intro hE_519
                have hW : Wd P Q P P c_408 = Wd P Q P P m9 := (Prod.mk.inj (Prod.mk.inj hE_519).2).1
                have h_520 := ir_1_4 hJ9
                have h_521 : m9 1 4 = c_408 1 4 := wd_fv (z := 4) 4 rfl hW rfl rfl rfl rfl (by decide) rfl ⟨by omega, by omega⟩ ⟨by omega, by omega⟩
                have h_522 := ir_1_2 hI_409
                have h_523 := ir_1_2 hJ9
                have h_524 : m9 1 2 = c_408 1 2 := wd_fv (z := 2) 2 rfl hW rfl rfl rfl rfl (by decide) rfl ⟨by omega, by omega⟩ ⟨by omega, by omega⟩
                have h_525 := ir_1_5 hI_409
                have h_526 := ir_1_5 hJ9
                have h_527 : m9 1 5 = c_408 1 5 := wd_fv (z := 5) 5 rfl hW rfl rfl rfl rfl (by decide) rfl ⟨by omega, by omega⟩ ⟨by omega, by omega⟩
                have h_528 := ir_p0_0 hI_404 hA
                have kn_529 : Hid (c_408 A 0 = c_403 A 0) := hF_410 A 0 (fun q => q.elim (fun h => absurd h.1 (np0 hA rfl)) (fun q => q.elim (fun h => absurd h.1 (np0 hA rfl)) (fun h => absurd h.1 (np0 hA rfl))))
                have h_530 := ir_p0_0 hJ9 hA
                have h_531 : m9 A 0 = c_403 A 0 := wd_fv (z := 0) 0 rfl hW (ck_p0 hA) (ck_p0 hA) rfl rfl (by omega) (hid kn_529) ⟨by omega, by omega⟩ ⟨by omega, by omega⟩
                have h_532 := ir_p0_1 hI_404 hA
                have kn_533 : Hid (c_408 A 1 = c_403 A 1) := hF_410 A 1 (fun q => q.elim (fun h => absurd h.1 (np0 hA rfl)) (fun q => q.elim (fun h => absurd h.1 (np0 hA rfl)) (fun h => absurd h.1 (np0 hA rfl))))
                have h_534 := ir_p0_1 hJ9 hA
                have h_535 : m9 A 1 = c_403 A 1 := wd_fv (z := 1) 1 rfl hW (ck_p0 hA) (ck_p0 hA) rfl rfl (by omega) (hid kn_533) ⟨by omega, by omega⟩ ⟨by omega, by omega⟩
                have h_536 := ir_p0_2 hI_404 hA
                have kn_537 : Hid (c_408 A 2 = c_403 A 2) := hF_410 A 2 (fun q => q.elim (fun h => absurd h.1 (np0 hA rfl)) (fun q => q.elim (fun h => absurd h.1 (np0 hA rfl)) (fun h => absurd h.1 (np0 hA rfl))))
                have h_538 := ir_p0_2 hJ9 hA
                have h_539 : m9 A 2 = c_403 A 2 := wd_fv (z := 2) 2 rfl hW (ck_p0 hA) (ck_p0 hA) rfl rfl (by omega) (hid kn_537) ⟨by omega, by omega⟩ ⟨by omega, by omega⟩
                have h_540 := ir_p0_3 hI_404 hA
                have kn_541 : Hid (c_408 A 3 = c_403 A 3) := hF_410 A 3 (fun q => q.elim (fun h => absurd h.1 (np0 hA rfl)) (fun q => q.elim (fun h => absurd h.1 (np0 hA rfl)) (fun h => absurd h.1 (np0 hA rfl))))
                have h_542 := ir_p0_3 hJ9 hA
                have h_543 : m9 A 3 = c_403 A 3 := wd_fv (z := 3) 3 rfl hW (ck_p0 hA) (ck_p0 hA) rfl rfl (by omega) (hid kn_541) ⟨by omega, by omega⟩ ⟨by omega, by omega⟩
                refine q_aload_n rfl rfl ?_
                refine v_cv rfl rfl rfl rfl (by decide) ⟨⟨rfl, rfl⟩, by decide, rfl⟩ (Nat.le_of_ble_eq_true rfl) (Nat.le_of_ble_eq_true rfl) ?_
                refine q_aload_n rfl rfl ?_
                refine v_gi (z := 5) (v := (-1)) rfl rfl rfl (by decide) rfl rfl (hc_1) ?_
                refine q_iconst rfl ?_
                refine v_ic_ne_f (t := 12) rfl (by decide) (by decide) ?_
                refine q_iconst rfl ?_
                refine q_goto (t := 13) rfl (by decide) ?_
                refine v_zret rfl rfl (by decide) ?_
                refine bk_inl ?_
                refine v_if_eq_f (t := 136) rfl (by decide) (by decide) ?_
                refine q_aload_n rfl rfl ?_
                refine v_cv rfl rfl rfl rfl (by decide) ⟨⟨rfl, rfl⟩, by decide, rfl⟩ (Nat.le_of_ble_eq_true rfl) (Nat.le_of_ble_eq_true rfl) ?_
                refine q_aload_n rfl rfl ?_
                have kn_544 : Hid (c2 41 3 = e1) := (hFc 41 3 (fun q => q.elim (fun h => absurd h.2 (ni rfl)) (fun q => q.elim (fun h => absurd h.2 (ni rfl)) (fun q => q.elim (fun h => absurd h.2 (ni rfl)) (fun q => q.elim (fun h => absurd h.2 (ni rfl)) (fun q => q.elim (fun h => absurd h.2 (ni rfl)) (fun q => q.elim (fun h => absurd h.2 (ni rfl)) (fun q => q.elim (fun h => absurd h.2 (ni rfl)) (fun q => q.elim (fun h => absurd h (nn rfl)) (fun q => q.elim (fun h => absurd h (nn rfl)) (fun h => absurd h (nn rfl)))))))))))).trans (hr_e1)
                have h_545 : -2147483648 ≤ (H (nx F e1 a)) ∧ (H (nx F e1 a)) ≤ 2147483647 := by rw [← hH (nx F e1 a)]; exact ir_43 hI (nx F e1 a)
                have h_546 := hU (nx F e1 a) (by omega) (by omega)
                have h_547 := hb_or (b := H) (e := e1) (r := (nx F e1 a))
                have h_548 := hb_bd (b := H) (e := e1) (r := (nx F e1 a)) (lo := -2147483648) (hi := 2147483647) ⟨by omega, by omega⟩ (by decide)
                refine v_cv rfl rfl rfl rfl (by decide) ⟨⟨rfl, rfl⟩, by decide, rfl⟩ (Nat.le_of_ble_eq_true rfl) (Nat.le_of_ble_eq_true rfl) (f_154 (e1 := e1) (a9 := a) (B := H) (r8 := (nx F e1 a)) (r := (hb H e1 (nx F e1 a))) hI2 ((hid kn_544)) ((hr_a)) (fun j => (hFc 43 j (fun q => q.elim (fun h => absurd h.1 (nn rfl)) (fun q => q.elim (fun h => absurd h.1 (nn rfl)) (fun q => q.elim (fun h => absurd h.1 (nn rfl)) (fun q => q.elim (fun h => absurd h.1 (nn rfl)) (fun q => q.elim (fun h => absurd h.1 (nn rfl)) (fun q => q.elim (fun h => absurd h.1 (nn rfl)) (fun q => q.elim (fun h => absurd h.1 (nn rfl)) (fun q => q.elim (fun h => absurd h (nn rfl)) (fun q => q.elim (fun h => absurd h (nn rfl)) (fun h => absurd h (nn rfl)))))))))))).trans (hH j)) ((nx_tr hU (by omega) (by omega)).trans (rfl)) rfl (fun c_549 hI_550 hF_551 h_552 => ?_))
                refine bk_inl ?_
                refine q_pop rfl rfl ?_
                refine q_aload_n rfl rfl ?_
                refine v_gi (z := 4) (v := (nx F e1 a)) rfl rfl rfl (by decide) rfl rfl (h_552) ?_
                refine q_aload_n rfl rfl ?_
                have kn_553 : Hid (c_549 41 3 = e1) := (hF_551 41 3 (fun h => absurd h.2 (ni rfl))).trans (hid kn_544)
                refine v_gi (z := 3) (v := e1) rfl rfl rfl (by decide) rfl rfl (hid kn_553) ?_
                refine v_ic_ge_f (t := 20) rfl (by decide) (by omega) ?_
                refine q_iconst rfl ?_
                refine q_goto (t := 21) rfl (by decide) ?_
                refine v_zret rfl rfl (by decide) ?_
                refine bk_inl ?_
                refine v_if_eq_f (t := 136) rfl (by decide) (by decide) ?_
                refine q_aload_n rfl rfl ?_
                have h_554 := wv_bd (b := F) (r := (nx F e1 a)) (l := (ln F e1 (nx F e1 a))) (fun j h1 h2 => ⟨(ln_in (e := e1) (a := (nx F e1 a)) h1 (by omega)).1, (ln_in (e := e1) (a := (nx F e1 a)) h1 (by omega)).2.1⟩)
                have h_555 := wr8_0 (b := F) (r := (nx F e1 a)) (l := (ln F e1 (nx F e1 a))) (by omega) (fun j h1 h2 => ⟨(ln_in (e := e1) (a := (nx F e1 a)) h1 (by omega)).1, (ln_in (e := e1) (a := (nx F e1 a)) h1 (by omega)).2.1⟩) (by omega)
                refine v_cv rfl rfl rfl rfl (by decide) ⟨⟨rfl, rfl⟩, by decide, rfl⟩ (Nat.le_of_ble_eq_true rfl) (Nat.le_of_ble_eq_true rfl) (f_157 (e1 := e1) (a9 := (nx F e1 a)) (B := H) (r8 := (nx F e1 a)) (L8 := (ln F e1 (nx F e1 a))) (W8 := (wv F (nx F e1 a) (ln F e1 (nx F e1 a)))) hI_550 ((hid kn_553)) ((h_552)) (fun j => ((hF_551 43 j (fun h => absurd h.1 (nn rfl))).trans (hFc 43 j (fun q => q.elim (fun h => absurd h.1 (nn rfl)) (fun q => q.elim (fun h => absurd h.1 (nn rfl)) (fun q => q.elim (fun h => absurd h.1 (nn rfl)) (fun q => q.elim (fun h => absurd h.1 (nn rfl)) (fun q => q.elim (fun h => absurd h.1 (nn rfl)) (fun q => q.elim (fun h => absurd h.1 (nn rfl)) (fun q => q.elim (fun h => absurd h.1 (nn rfl)) (fun q => q.elim (fun h => absurd h (nn rfl)) (fun q => q.elim (fun h => absurd h (nn rfl)) (fun h => absurd h (nn rfl))))))))))))).trans (hH j)) ((nx_tr hU (by omega) (by omega)).trans ((nx_z (by omega)))) ((ln_tr hU (by omega) (by omega)).trans (rfl)) ((wv_tr hU (by omega) (by omega) (fun j h1 h2 => ⟨(ln_in (e := e1) (a := (nx F e1 a)) h1 (by omega)).1, (ln_in (e := e1) (a := (nx F e1 a)) h1 (by omega)).2.1⟩)).trans (rfl)) (fun c_556 hI_557 hF_558 hz_559 => ?_))
                refine bk_inl ?_
                refine q_istore_n rfl (by decide) ?_
                refine q_iload_n rfl rfl ?_
                refine q_call rfl rfl rfl rfl ?_
                refine q_iload_n rfl rfl ?_
                refine q_ldc_s rfl rfl rfl (by decide) ?_
                refine q_call rfl rfl rfl rfl (s_158_16 ?_)
                refine bk_inl ?_
                refine v_ic_eq_t (t := 36) rfl (by decide) (by omega) ?_
                refine q_iconst rfl ?_
                refine q_goto (t := 41) rfl (by decide) ?_
                refine v_zret rfl rfl (by decide) ?_
                refine bk_inl ?_
                refine v_if_ne_t (t := 82) rfl (by decide) (by decide) ?_
                refine q_iload_n rfl rfl ?_
                refine v_bip rfl (by decide) ?_
                refine v_ic_eq_f (t := 96) rfl (by decide) (by omega) ?_
                refine q_aload_n rfl rfl ?_
                refine q_iload_n rfl rfl ?_
                refine v_cv rfl rfl rfl rfl (by decide) ⟨⟨rfl, rfl⟩, by decide, rfl⟩ (Nat.le_of_ble_eq_true rfl) (Nat.le_of_ble_eq_true rfl) ?_
                refine q_iload_n rfl rfl ?_
                refine q_ldc_s rfl rfl rfl (by decide) ?_
                refine q_call rfl rfl rfl rfl (s_158_16 ?_)
                refine bk_inl ?_
                refine v_ic_ne_f (t := 26) rfl (by decide) (by omega) ?_
                refine q_aload_n rfl rfl ?_
                have kn_560 : Hid (c_549 41 16 = jr) := (hF_551 41 16 (fun h => absurd h.2 (ni rfl))).trans (hr_jr)
                have kn_561 : Hid (c_556 41 16 = jr) := (hF_558 41 16 (fun h => absurd h.2 (ni rfl))).trans (hid kn_560)
                refine v_gi (z := 16) (v := jr) rfl rfl rfl (by decide) rfl rfl (hid kn_561) ?_
                refine v_bip rfl (by decide) ?_
                refine v_ic_ne_t (t := 22) rfl (by decide) (by omega) ?_
                refine q_iconst rfl ?_
                refine q_goto (t := 73) rfl (by decide) ?_
                refine v_zret rfl rfl (by decide) ?_
                refine bk_inl ?_
                refine v_if_eq_t (t := 105) rfl (by decide) (by decide) ?_
                refine q_aload_n rfl rfl ?_
                refine v_cv rfl rfl rfl rfl (by decide) ⟨⟨rfl, rfl⟩, by decide, rfl⟩ (Nat.le_of_ble_eq_true rfl) (Nat.le_of_ble_eq_true rfl) ?_
                refine q_aload_n rfl rfl ?_
                have kn_562 : Hid (c_549 41 5 = (-1)) := (hF_551 41 5 (fun h => absurd h.2 (ni rfl))).trans (hc_1)
                have kn_563 : Hid (c_556 41 5 = (-1)) := (hF_558 41 5 (fun h => absurd h.2 (ni rfl))).trans (hid kn_562)
                refine v_gi (z := 5) (v := (-1)) rfl rfl rfl (by decide) rfl rfl (hid kn_563) ?_
                refine q_iconst rfl ?_
                refine v_ic_ne_f (t := 12) rfl (by decide) (by decide) ?_
                refine q_iconst rfl ?_
                refine q_goto (t := 13) rfl (by decide) ?_
                refine v_zret rfl rfl (by decide) ?_
                refine bk_inl ?_
                refine v_if_ne_t (t := 115) rfl (by decide) (by decide) ?_
                refine q_aload_n rfl rfl ?_
                have kn_564 : Hid (c_556 41 3 = e1) := (hF_558 41 3 (fun h => absurd h.2 (ni rfl))).trans (hid kn_553)
                refine v_cv rfl rfl rfl rfl (by decide) ⟨⟨rfl, rfl⟩, by decide, rfl⟩ (Nat.le_of_ble_eq_true rfl) (Nat.le_of_ble_eq_true rfl) (f_159 (e1 := e1) (a9 := (nx F e1 a)) (B := H) (L8 := (ln F e1 (nx F e1 a))) hI_557 ((hid kn_564)) ((hz_559)) (fun j => ((hF_558 43 j (fun h => absurd h.1 (nn rfl))).trans ((hF_551 43 j (fun h => absurd h.1 (nn rfl))).trans (hFc 43 j (fun q => q.elim (fun h => absurd h.1 (nn rfl)) (fun q => q.elim (fun h => absurd h.1 (nn rfl)) (fun q => q.elim (fun h => absurd h.1 (nn rfl)) (fun q => q.elim (fun h => absurd h.1 (nn rfl)) (fun q => q.elim (fun h => absurd h.1 (nn rfl)) (fun q => q.elim (fun h => absurd h.1 (nn rfl)) (fun q => q.elim (fun h => absurd h.1 (nn rfl)) (fun q => q.elim (fun h => absurd h (nn rfl)) (fun q => q.elim (fun h => absurd h (nn rfl)) (fun h => absurd h (nn rfl)))))))))))))).trans (hH j)) ((ln_tr hU (by omega) (by omega)).trans (rfl)) (fun c_565 hI_566 hF_567 hz_568 => ?_))
                refine bk_inl ?_
                refine q_aload_n rfl rfl ?_
                refine q_iload_n rfl rfl ?_
                have hw_569 : (wv F (nx F e1 a) (ln F e1 (nx F e1 a))) = 10290 := by omega
                rw [hw_569]
                have kn_570 : Hid (c_112 1 1 = e1) := (hF_114 1 1 (fun q => q.elim (fun h => absurd h.2 (ni rfl)) (fun q => q.elim (fun h => absurd h.2 (ni rfl)) (fun h => absurd h.2 (ni rfl))))).trans (hid kn_91)
                have kn_571 : Hid (c_565 41 3 = e1) := (hF_567 41 3 (fun h => absurd h.2 (ni rfl))).trans (hid kn_564)
                have kn_572 : Hid (c_565 41 16 = jr) := (hF_567 41 16 (fun h => absurd h.2 (ni rfl))).trans (hid kn_561)
                have kn_573 : Hid (c_549 41 17 = st) := (hF_551 41 17 (fun h => absurd h.2 (ni rfl))).trans (hr_st)
                have kn_574 : Hid (c_556 41 17 = st) := (hF_558 41 17 (fun h => absurd h.2 (ni rfl))).trans (hid kn_573)
                have kn_575 : Hid (c_565 41 17 = st) := (hF_567 41 17 (fun h => absurd h.2 (ni rfl))).trans (hid kn_574)
                have kn_576 : Hid (c_549 41 18 = si) := (hF_551 41 18 (fun h => absurd h.2 (ni rfl))).trans (hr_si)
                have kn_577 : Hid (c_556 41 18 = si) := (hF_558 41 18 (fun h => absurd h.2 (ni rfl))).trans (hid kn_576)
                have kn_578 : Hid (c_565 41 18 = si) := (hF_567 41 18 (fun h => absurd h.2 (ni rfl))).trans (hid kn_577)
                have kn_579 : Hid (c_27 A 3 = du) := (hF_29 A 3 (fun h => absurd h.1 (np0 hA rfl))).trans (hg_du)
                have kn_580 : Hid (c_87 A 3 = du) := (hF_89 A 3 (fun h => absurd h.1 (np0 hA rfl))).trans (hid kn_579)
                have kn_581 : Hid (c_112 A 3 = du) := (hF_114 A 3 (fun q => q.elim (fun h => absurd h.1 (np0 hA rfl)) (fun q => q.elim (fun h => absurd h.1 (np0 hA rfl)) (fun h => absurd h.1 (np0 hA rfl))))).trans (hid kn_580)
                have kn_582 : Hid (c_549 41 19 = du) := (hF_551 41 19 (fun h => absurd h.2 (ni rfl))).trans (hr_du)
                have kn_583 : Hid (c_556 41 19 = du) := (hF_558 41 19 (fun h => absurd h.2 (ni rfl))).trans (hid kn_582)
                have kn_584 : Hid (c_565 41 19 = du) := (hF_567 41 19 (fun h => absurd h.2 (ni rfl))).trans (hid kn_583)
                have h_585 : c_112 1 4 = 0 := (hz_118)
                have h_586 : c_112 1 2 = (ln F e1 (nx F e1 a)) := (hz_117)
                have h_587 : c_112 1 5 = (-1) := (hz_119)
                have kn_588 : Hid (c_565 41 5 = (-1)) := (hF_567 41 5 (fun h => absurd h.2 (ni rfl))).trans (hid kn_563)
                have h_589 : c_565 41 5 = (-1) := (hid kn_588)
                have h_590 : c_565 41 4 = (ln F e1 (nx F e1 a)) := (hz_568)
                have h_591 := ir_41_6 hI2
                have kn_592 : Hid (c_549 41 6 = c2 41 6) := hF_551 41 6 (fun h => absurd h.2 (ni rfl))
                have kn_593 : Hid (c_556 41 6 = c2 41 6) := (hF_558 41 6 (fun h => absurd h.2 (ni rfl))).trans (hid kn_592)
                have kn_594 : Hid (c_565 41 6 = c2 41 6) := (hF_567 41 6 (fun h => absurd h.2 (ni rfl))).trans (hid kn_593)
                have h_595 : c_565 41 6 = c2 41 6 := (hid kn_594)
                have hA_596 : Ae (4 * jr) (c_112 (A + 1)) (c_565 44) := ae_fr hrl0 (fun j => (hF_114 (A + 1) j (fun q => q.elim (fun h => absurd h.1 (np hA rfl rfl)) (fun q => q.elim (fun h => absurd h.1 (np hA rfl rfl)) (fun h => absurd h.1 (np hA rfl rfl))))).trans ((hF_89 (A + 1) j (fun h => absurd h.1 (np hA rfl rfl))).trans (hF_29 (A + 1) j (fun h => absurd h.1 (np hA rfl rfl))))) (fun j => (hF_567 44 j (fun h => absurd h.1 (nn rfl))).trans ((hF_558 44 j (fun h => absurd h.1 (nn rfl))).trans (hF_551 44 j (fun h => absurd h.1 (nn rfl)))))
                have hA_597 : Ae (3 * st) (c_112 (A + 2)) (c_565 45) := ae_fr hrl1 (fun j => (hF_114 (A + 2) j (fun q => q.elim (fun h => absurd h.1 (np hA rfl rfl)) (fun q => q.elim (fun h => absurd h.1 (np hA rfl rfl)) (fun h => absurd h.1 (np hA rfl rfl))))).trans ((hF_89 (A + 2) j (fun h => absurd h.1 (np hA rfl rfl))).trans (hF_29 (A + 2) j (fun h => absurd h.1 (np hA rfl rfl))))) (fun j => (hF_567 45 j (fun h => absurd h.1 (nn rfl))).trans ((hF_558 45 j (fun h => absurd h.1 (nn rfl))).trans (hF_551 45 j (fun h => absurd h.1 (nn rfl)))))
                have hA_598 : Ae si (c_112 (A + 3)) (c_565 46) := ae_fr hrl2 (fun j => (hF_114 (A + 3) j (fun q => q.elim (fun h => absurd h.1 (np hA rfl rfl)) (fun q => q.elim (fun h => absurd h.1 (np hA rfl rfl)) (fun h => absurd h.1 (np hA rfl rfl))))).trans ((hF_89 (A + 3) j (fun h => absurd h.1 (np hA rfl rfl))).trans (hF_29 (A + 3) j (fun h => absurd h.1 (np hA rfl rfl))))) (fun j => (hF_567 46 j (fun h => absurd h.1 (nn rfl))).trans ((hF_558 46 j (fun h => absurd h.1 (nn rfl))).trans (hF_551 46 j (fun h => absurd h.1 (nn rfl)))))
                refine v_cv rfl rfl rfl rfl (by decide) ⟨⟨rfl, rfl⟩, by decide, rfl⟩ (Nat.le_of_ble_eq_true rfl) (Nat.le_of_ble_eq_true rfl) (L_33a_0 (m := c_112) (e1 := e1) (jr := jr) (st := st) (si := si) (du := du) (F := F) (H := H) hI_566 hI_113 hI_404 hA (by omega) ((hid kn_570)) ((hid kn_571)) ((hid kn_391)) ((hid kn_572)) ((hid kn_397)) ((hid kn_575)) ((hid kn_401)) ((hid kn_578)) ((hid kn_581)) ((hid kn_584)) (fun j => ((hF_114 2 j (fun q => q.elim (fun h => absurd h.1 (nn rfl)) (fun q => q.elim (fun h => absurd h.1 (nn rfl)) (fun h => absurd h.1 (nn rfl))))).trans ((hF_89 2 j (fun h => absurd h.1 (nn rfl))).trans ((hF_29 2 j (fun h => absurd h.1 (nn rfl))).trans (hFm 2 j (fun q => q.elim (fun h => absurd h.1 (nn rfl)) (fun q => q.elim (fun h => absurd h.1 (nn rfl)) (fun q => q.elim (fun h => absurd h.1 (nn rfl)) (fun q => q.elim (fun h => absurd h.1 (pn0 hA rfl)) (fun q => q.elim (fun h => absurd h.1 (pn0 hA rfl)) (fun q => q.elim (fun h => absurd h.1 (pn0 hA rfl)) (fun q => q.elim (fun h => absurd h.1 (pn0 hA rfl)) (fun q => q.elim (fun h => absurd h (pn hA rfl rfl)) (fun q => q.elim (fun h => absurd h (pn hA rfl rfl)) (fun q => q.elim (fun h => absurd h (pn hA rfl rfl)) (fun q => q.elim (fun h => absurd h.1 (pn0 hA rfl)) (fun q => q.elim (fun h => absurd h.1 (pn0 hA rfl)) (fun q => q.elim (fun h => absurd h (pn hA rfl rfl)) (fun h => absurd h.1 (pn hA rfl rfl))))))))))))))))))).trans (hF j)) (fun j => ((hF_567 43 j (fun h => absurd h.1 (nn rfl))).trans ((hF_558 43 j (fun h => absurd h.1 (nn rfl))).trans ((hF_551 43 j (fun h => absurd h.1 (nn rfl))).trans (hFc 43 j (fun q => q.elim (fun h => absurd h.1 (nn rfl)) (fun q => q.elim (fun h => absurd h.1 (nn rfl)) (fun q => q.elim (fun h => absurd h.1 (nn rfl)) (fun q => q.elim (fun h => absurd h.1 (nn rfl)) (fun q => q.elim (fun h => absurd h.1 (nn rfl)) (fun q => q.elim (fun h => absurd h.1 (nn rfl)) (fun q => q.elim (fun h => absurd h.1 (nn rfl)) (fun q => q.elim (fun h => absurd h (nn rfl)) (fun q => q.elim (fun h => absurd h (nn rfl)) (fun h => absurd h (nn rfl))))))))))))))).trans (hH j)) hU (by unfold Rt; omega) (ae_le hA_596 (by omega)) (ae_le hA_597 (by omega)) (ae_le hA_598 (by omega)) hG_406 (fun c_599 hI_600 hF_601 hR_603 h_604 h_605 h_606 h_607 hA_608 hA_609 hA_610 => ?_))
                refine bk_inl ?_
                have h_611 := ir_41_16 hI_600
                have h_612 := ir_41_17 hI_600
                have h_613 := ir_41_18 hI_600
                have h_614 := ir_41_19 hI_600
                refine q_aload_n rfl rfl ?_
                refine v_bip rfl (by decide) ?_
                have kn_615 : Hid (c_403 1 1 = e1) := (hF_405 1 1 (fun q => q.elim (fun h => absurd h.2 (ni rfl)) (fun q => q.elim (fun h => absurd h.2 (ni rfl)) (fun q => q.elim (fun h => absurd h.2 (ni rfl)) (fun q => q.elim (fun h => absurd h.1 (pn0 hA rfl)) (fun q => q.elim (fun h => absurd h.1 (pn0 hA rfl)) (fun q => q.elim (fun h => absurd h.1 (pn0 hA rfl)) (fun q => q.elim (fun h => absurd h.1 (pn0 hA rfl)) (fun q => q.elim (fun h => absurd h (pn hA rfl rfl)) (fun q => q.elim (fun h => absurd h (pn hA rfl rfl)) (fun h => absurd h (pn hA rfl rfl)))))))))))).trans (hid kn_570)
                have kn_616 : Hid (c_599 41 3 = e1) := (hF_601 41 3 (fun q => q.elim (fun h => absurd h.2 (ni rfl)) (fun q => q.elim (fun h => absurd h.2 (ni rfl)) (fun q => q.elim (fun h => absurd h.2 (ni rfl)) (fun q => q.elim (fun h => absurd h.2 (ni rfl)) (fun q => q.elim (fun h => absurd h.2 (ni rfl)) (fun q => q.elim (fun h => absurd h.2 (ni rfl)) (fun q => q.elim (fun h => absurd h.2 (ni rfl)) (fun q => q.elim (fun h => absurd h (nn rfl)) (fun q => q.elim (fun h => absurd h (nn rfl)) (fun h => absurd h (nn rfl)))))))))))).trans (hid kn_571)
                have h_617 := ir_1_2 hI_404
                refine v_cv rfl rfl rfl rfl (by decide) ⟨⟨rfl, rfl⟩, by decide, rfl⟩ (Nat.le_of_ble_eq_true rfl) (Nat.le_of_ble_eq_true rfl) (L_11_9 (m := c_403) (e1 := e1) (a9 := c_403 1 2) (F := F) (H := H) hI_600 hI_404 hI_409 ((hid kn_615)) ((hid kn_616)) (rfl) (fun j => ((hF_405 2 j (fun q => q.elim (fun h => absurd h.1 (nn rfl)) (fun q => q.elim (fun h => absurd h.1 (nn rfl)) (fun q => q.elim (fun h => absurd h.1 (nn rfl)) (fun q => q.elim (fun h => absurd h.1 (pn0 hA rfl)) (fun q => q.elim (fun h => absurd h.1 (pn0 hA rfl)) (fun q => q.elim (fun h => absurd h.1 (pn0 hA rfl)) (fun q => q.elim (fun h => absurd h.1 (pn0 hA rfl)) (fun q => q.elim (fun h => absurd h (pn hA rfl rfl)) (fun q => q.elim (fun h => absurd h (pn hA rfl rfl)) (fun h => absurd h (pn hA rfl rfl)))))))))))).trans ((hF_114 2 j (fun q => q.elim (fun h => absurd h.1 (nn rfl)) (fun q => q.elim (fun h => absurd h.1 (nn rfl)) (fun h => absurd h.1 (nn rfl))))).trans ((hF_89 2 j (fun h => absurd h.1 (nn rfl))).trans ((hF_29 2 j (fun h => absurd h.1 (nn rfl))).trans (hFm 2 j (fun q => q.elim (fun h => absurd h.1 (nn rfl)) (fun q => q.elim (fun h => absurd h.1 (nn rfl)) (fun q => q.elim (fun h => absurd h.1 (nn rfl)) (fun q => q.elim (fun h => absurd h.1 (pn0 hA rfl)) (fun q => q.elim (fun h => absurd h.1 (pn0 hA rfl)) (fun q => q.elim (fun h => absurd h.1 (pn0 hA rfl)) (fun q => q.elim (fun h => absurd h.1 (pn0 hA rfl)) (fun q => q.elim (fun h => absurd h (pn hA rfl rfl)) (fun q => q.elim (fun h => absurd h (pn hA rfl rfl)) (fun q => q.elim (fun h => absurd h (pn hA rfl rfl)) (fun q => q.elim (fun h => absurd h.1 (pn0 hA rfl)) (fun q => q.elim (fun h => absurd h.1 (pn0 hA rfl)) (fun q => q.elim (fun h => absurd h (pn hA rfl rfl)) (fun h => absurd h.1 (pn hA rfl rfl)))))))))))))))))))).trans (hF j)) (fun j => ((hF_601 43 j (fun q => q.elim (fun h => absurd h.1 (nn rfl)) (fun q => q.elim (fun h => absurd h.1 (nn rfl)) (fun q => q.elim (fun h => absurd h.1 (nn rfl)) (fun q => q.elim (fun h => absurd h.1 (nn rfl)) (fun q => q.elim (fun h => absurd h.1 (nn rfl)) (fun q => q.elim (fun h => absurd h.1 (nn rfl)) (fun q => q.elim (fun h => absurd h.1 (nn rfl)) (fun q => q.elim (fun h => absurd h (nn rfl)) (fun q => q.elim (fun h => absurd h (nn rfl)) (fun h => absurd h (nn rfl)))))))))))).trans ((hF_567 43 j (fun h => absurd h.1 (nn rfl))).trans ((hF_558 43 j (fun h => absurd h.1 (nn rfl))).trans ((hF_551 43 j (fun h => absurd h.1 (nn rfl))).trans (hFc 43 j (fun q => q.elim (fun h => absurd h.1 (nn rfl)) (fun q => q.elim (fun h => absurd h.1 (nn rfl)) (fun q => q.elim (fun h => absurd h.1 (nn rfl)) (fun q => q.elim (fun h => absurd h.1 (nn rfl)) (fun q => q.elim (fun h => absurd h.1 (nn rfl)) (fun q => q.elim (fun h => absurd h.1 (nn rfl)) (fun q => q.elim (fun h => absurd h.1 (nn rfl)) (fun q => q.elim (fun h => absurd h (nn rfl)) (fun q => q.elim (fun h => absurd h (nn rfl)) (fun h => absurd h (nn rfl)))))))))))))))).trans (hH j)) hU hR_603 hG_411 (fun c_618 hI_619 hF_620 hR_622 h_623 => ?_))
                refine bk_inl ?_
                refine v_iinc (v := v + 1) rfl rfl (by decide) (by omega) ?_
                refine q_goto (t := 44) rfl (by decide) ?_
                refine q_aload_n rfl rfl ?_
                refine v_cv rfl rfl rfl rfl (by decide) ⟨⟨rfl, rfl⟩, by decide, rfl⟩ (Nat.le_of_ble_eq_true rfl) (Nat.le_of_ble_eq_true rfl) ?_
                refine q_aload_n rfl rfl ?_
                have h_624 := ir_41_5 hI_619
                have h_625 := ir_41_4 hI_619
                have h_626 := ir_41_6 hI_619
                have h_627 := rt_bad hR_622 (by omega)
                have hrb_hR_622 := rt_bad hR_622 (by omega)
                refine v_gi (z := 5) (v := c_408 1 5) rfl rfl rfl (by decide) rfl rfl hrb_hR_622.2.1 ?_
                refine q_iconst rfl ?_
                refine v_ic_ne_t (t := 12) rfl (by decide) (by omega) ?_
                refine q_iconst rfl ?_
                refine v_zret rfl rfl (by decide) ?_
                refine bk_inl ?_
                refine v_if_eq_t (t := 136) rfl (by decide) (by decide) ?_
                refine Wp_ls [(0, .ref 41), (1, vi a1)] (lsub_cons rfl (lsub_cons rfl lsub_nil)) ?_
                have h_628 : c_618 41 5 = c_408 1 5 := hrb_hR_622.2.1
                have h_629 : c_618 41 6 = c_408 1 4 := hrb_hR_622.2.2.2
                have kn_630 : Hid (c_618 41 16 = c_599 41 16) := hF_620 41 16 (fun q => q.elim (fun h => absurd h.2 (ni rfl)) (fun q => q.elim (fun h => absurd h.2 (ni rfl)) (fun h => absurd h.2 (ni rfl))))
                have h_631 : c_618 41 16 = c_599 41 16 := (hid kn_630)
                have kn_632 : Hid (c_618 41 17 = c_599 41 17) := hF_620 41 17 (fun q => q.elim (fun h => absurd h.2 (ni rfl)) (fun q => q.elim (fun h => absurd h.2 (ni rfl)) (fun h => absurd h.2 (ni rfl))))
                have h_633 : c_618 41 17 = c_599 41 17 := (hid kn_632)
                have kn_634 : Hid (c_618 41 18 = c_599 41 18) := hF_620 41 18 (fun q => q.elim (fun h => absurd h.2 (ni rfl)) (fun q => q.elim (fun h => absurd h.2 (ni rfl)) (fun h => absurd h.2 (ni rfl))))
                have h_635 : c_618 41 18 = c_599 41 18 := (hid kn_634)
                have kn_636 : Hid (c_618 41 19 = c_599 41 19) := hF_620 41 19 (fun q => q.elim (fun h => absurd h.2 (ni rfl)) (fun q => q.elim (fun h => absurd h.2 (ni rfl)) (fun h => absurd h.2 (ni rfl))))
                have h_637 : c_618 41 19 = c_599 41 19 := (hid kn_636)
                have h_638 : c_618 41 16 = c_599 41 16 := (hid kn_630)
                have h_639 : c_618 41 17 = c_599 41 17 := (hid kn_632)
                have h_640 : c_618 41 18 = c_599 41 18 := (hid kn_634)
                exact K c_618  hI_619 (fun a j hm => (hF_620 a j (fun q => q.elim (fun h => hm (Or.inl h)) (fun q => q.elim (fun h => hm (Or.inr (Or.inl h))) (fun h => hm (Or.inr (Or.inr (Or.inl h))))))).trans ((hF_601 a j (fun q => q.elim (fun h => hm (Or.inl h)) (fun q => q.elim (fun h => hm (Or.inr (Or.inl h))) (fun q => q.elim (fun h => hm (Or.inr (Or.inr (Or.inl h)))) (fun q => q.elim (fun h => hm (Or.inr (Or.inr (Or.inr (Or.inl h))))) (fun q => q.elim (fun h => hm (Or.inr (Or.inr (Or.inr (Or.inr (Or.inl h)))))) (fun q => q.elim (fun h => hm (Or.inr (Or.inr (Or.inr (Or.inr (Or.inr (Or.inl h))))))) (fun q => q.elim (fun h => hm (Or.inr (Or.inr (Or.inr (Or.inr (Or.inr (Or.inr (Or.inl h)))))))) (fun q => q.elim (fun h => hm (Or.inr (Or.inr (Or.inr (Or.inr (Or.inr (Or.inr (Or.inr (Or.inl h))))))))) (fun q => q.elim (fun h => hm (Or.inr (Or.inr (Or.inr (Or.inr (Or.inr (Or.inr (Or.inr (Or.inr (Or.inl h)))))))))) (fun h => hm (Or.inr (Or.inr (Or.inr (Or.inr (Or.inr (Or.inr (Or.inr (Or.inr (Or.inr h)))))))))))))))))))).trans ((hF_567 a j (fun h => hm (Or.inl h))).trans ((hF_558 a j (fun h => hm (Or.inl h))).trans ((hF_551 a j (fun h => hm (Or.inl h))).trans (hFc a j (fun q => q.elim (fun h => hm (Or.inl h)) (fun q => q.elim (fun h => hm (Or.inr (Or.inl h))) (fun q => q.elim (fun h => hm (Or.inr (Or.inr (Or.inl h)))) (fun q => q.elim (fun h => hm (Or.inr (Or.inr (Or.inr (Or.inl h))))) (fun q => q.elim (fun h => hm (Or.inr (Or.inr (Or.inr (Or.inr (Or.inl h)))))) (fun q => q.elim (fun h => hm (Or.inr (Or.inr (Or.inr (Or.inr (Or.inr (Or.inl h))))))) (fun q => q.elim (fun h => hm (Or.inr (Or.inr (Or.inr (Or.inr (Or.inr (Or.inr (Or.inl h)))))))) (fun q => q.elim (fun h => hm (Or.inr (Or.inr (Or.inr (Or.inr (Or.inr (Or.inr (Or.inr (Or.inl h))))))))) (fun q => q.elim (fun h => hm (Or.inr (Or.inr (Or.inr (Or.inr (Or.inr (Or.inr (Or.inr (Or.inr (Or.inl h)))))))))) (fun h => hm (Or.inr (Or.inr (Or.inr (Or.inr (Or.inr (Or.inr (Or.inr (Or.inr (Or.inr h))))))))))))))))))))))))) (by unfold Rt; omega) (by omega) (fun hz => absurd hz (by omega)) (fun hz => absurd hz (by omega)) (fun hz => absurd hz (by omega))
            · refine v_ic_ne_f (t := 41) rfl (by decide) (by omega) ?_
              refine q_iconst rfl ?_
              refine q_goto (t := 42) rfl (by decide) ?_
              refine v_zret rfl rfl (by decide) ?_
              refine bk_inl ?_
              refine v_if_eq_f (t := 59) rfl (by decide) (by decide) ?_
              refine q_aload_n rfl rfl ?_
              refine q_iconst rfl ?_
              refine q_iload_n rfl rfl ?_
              refine v_cv rfl rfl rfl rfl (by decide) ⟨⟨rfl, rfl⟩, by decide, rfl⟩ (Nat.le_of_ble_eq_true rfl) (Nat.le_of_ble_eq_true rfl) ?_
              refine q_aload_n rfl rfl ?_
              refine v_gi (z := 4) (v := 0) rfl rfl rfl (by decide) rfl rfl (hz_118) ?_
              refine v_if_ne_f (t := 17) rfl (by decide) (by decide) ?_
              refine q_aload_n rfl rfl ?_
              refine q_iload_n rfl rfl ?_
              refine v_pi (z := 4) rfl rfl rfl (by decide) rfl rfl rfl (by decide) ?_
              refine q_aload_n rfl rfl ?_
              refine q_iload_n rfl rfl ?_
              refine v_pi (z := 5) rfl rfl rfl (by decide) rfl rfl rfl (by decide) ?_
              refine q_vret rfl rfl ?_
              refine bk_inl ?_
              refine q_aload_n rfl rfl ?_
              refine v_cv rfl rfl rfl rfl (by decide) ⟨⟨rfl, rfl⟩, by decide, rfl⟩ (Nat.le_of_ble_eq_true rfl) (Nat.le_of_ble_eq_true rfl) ?_
              refine q_aload_n rfl rfl ?_
              refine v_gi (z := 4) (v := 3) rfl rfl rfl (by decide) rfl rfl ((up_n (by decide)).trans (up_e rfl)) ?_
              refine v_if_ne_t (t := 11) rfl (by decide) (by decide) ?_
              refine q_iconst rfl ?_
              refine v_zret rfl rfl (by decide) ?_
              refine bk_inl ?_
              refine v_if_eq_t (t := 73) rfl (by decide) (by decide) ?_
              refine q_aload_n rfl rfl ?_
              refine q_ldc_s rfl rfl rfl (by decide) ?_
              refine v_cv rfl rfl rfl rfl (by decide) ⟨⟨rfl, rfl⟩, by decide, rfl⟩ (Nat.le_of_ble_eq_true rfl) (Nat.le_of_ble_eq_true rfl) ?_
              refine q_aload_n rfl rfl ?_
              refine v_cv rfl rfl rfl rfl (by decide) ⟨⟨rfl, rfl⟩, by decide, rfl⟩ (Nat.le_of_ble_eq_true rfl) (Nat.le_of_ble_eq_true rfl) ?_
              refine q_aload_n rfl rfl ?_
              refine v_gi (z := 4) (v := 3) rfl rfl rfl (by decide) rfl rfl ((up_n (by decide)).trans (up_e rfl)) ?_
              refine v_if_ne_t (t := 11) rfl (by decide) (by decide) ?_
              refine q_iconst rfl ?_
              refine v_zret rfl rfl (by decide) ?_
              refine bk_inl ?_
              refine v_if_eq_t (t := 25) rfl (by decide) (by decide) ?_
              refine q_vret rfl rfl ?_
              refine bk_inl ?_
              refine v_iinc (v := v + 1) rfl rfl (by decide) (by omega) ?_
              refine q_goto (t := 6) rfl (by decide) ?_
              refine q_iload_n rfl rfl ?_
              refine v_bip rfl (by decide) ?_
              refine v_ic_gt_f (t := 85) rfl (by decide) (by omega) ?_
              refine q_aload_n rfl rfl ?_
              refine v_cv rfl rfl rfl rfl (by decide) ⟨⟨rfl, rfl⟩, by decide, rfl⟩ (Nat.le_of_ble_eq_true rfl) (Nat.le_of_ble_eq_true rfl) ?_
              refine q_aload_n rfl rfl ?_
              refine v_cv rfl rfl rfl rfl (by decide) ⟨⟨rfl, rfl⟩, by decide, rfl⟩ (Nat.le_of_ble_eq_true rfl) (Nat.le_of_ble_eq_true rfl) ?_
              refine q_aload_n rfl rfl ?_
              refine v_gi (z := 4) (v := 3) rfl rfl rfl (by decide) rfl rfl ((up_n (by decide)).trans (up_e rfl)) ?_
              refine v_if_ne_t (t := 11) rfl (by decide) (by decide) ?_
              refine q_iconst rfl ?_
              refine v_zret rfl rfl (by decide) ?_
              refine bk_inl ?_
              refine v_if_eq_t (t := 22) rfl (by decide) (by decide) ?_
              refine q_iconst rfl ?_
              refine v_zret rfl rfl (by decide) ?_
              refine bk_inl ?_
              refine v_if_eq_t (t := 85) rfl (by decide) (by decide) ?_
              refine q_vret rfl rfl ?_
              have hI_641 := iw_1_4 (v := 3) hI_113 ⟨by decide, by decide⟩
              have hI_642 := iw_1_5 (v := (nx F e1 a)) hI_641 ⟨by omega, by omega⟩
              intro hE_643
              have hW : Wd P Q P P (up (up c_112 1 4 3) 1 5 (nx F e1 a)) = Wd P Q P P m9 := (Prod.mk.inj (Prod.mk.inj hE_643).2).1
              have h_644 := ir_1_4 hJ9
              have h_645 : m9 1 4 = 3 := wd_fv (z := 4) 4 rfl hW rfl rfl rfl rfl (by decide) ((up_n (by decide)).trans (up_e rfl)) ⟨by omega, by omega⟩ ⟨by omega, by omega⟩
              have h_646 := ir_1_2 hJ9
              have h_647 : m9 1 2 = (ln F e1 (nx F e1 a)) := wd_fv (z := 2) 2 rfl hW rfl rfl rfl rfl (by decide) ((up_n (by decide)).trans ((up_n (by decide)).trans (hz_117))) ⟨by omega, by omega⟩ ⟨by omega, by omega⟩
              have h_648 := ir_1_5 hJ9
              have h_649 : m9 1 5 = (nx F e1 a) := wd_fv (z := 5) 5 rfl hW rfl rfl rfl rfl (by decide) (up_e rfl) ⟨by omega, by omega⟩ ⟨by omega, by omega⟩
              have h_650 := ir_p0_0 hJ9 hA
              have h_651 : m9 A 0 = jr := wd_fv (z := 0) 0 rfl hW (ck_p0 hA) (ck_p0 hA) rfl rfl (by omega) ((up_c (np0 hA rfl)).trans ((up_c (np0 hA rfl)).trans (hid kn_391))) ⟨by omega, by omega⟩ ⟨by omega, by omega⟩
              have kn_652 : Hid (c_27 A 1 = st) := (hF_29 A 1 (fun h => absurd h.1 (np0 hA rfl))).trans (hg_st)
              have kn_653 : Hid (c_87 A 1 = st) := (hF_89 A 1 (fun h => absurd h.1 (np0 hA rfl))).trans (hid kn_652)
              have kn_654 : Hid (c_112 A 1 = st) := (hF_114 A 1 (fun q => q.elim (fun h => absurd h.1 (np0 hA rfl)) (fun q => q.elim (fun h => absurd h.1 (np0 hA rfl)) (fun h => absurd h.1 (np0 hA rfl))))).trans (hid kn_653)
              have h_655 := ir_p0_1 hJ9 hA
              have h_656 : m9 A 1 = st := wd_fv (z := 1) 1 rfl hW (ck_p0 hA) (ck_p0 hA) rfl rfl (by omega) ((up_c (np0 hA rfl)).trans ((up_c (np0 hA rfl)).trans (hid kn_654))) ⟨by omega, by omega⟩ ⟨by omega, by omega⟩
              have kn_657 : Hid (c_27 A 2 = si) := (hF_29 A 2 (fun h => absurd h.1 (np0 hA rfl))).trans (hg_si)
              have kn_658 : Hid (c_87 A 2 = si) := (hF_89 A 2 (fun h => absurd h.1 (np0 hA rfl))).trans (hid kn_657)
              have kn_659 : Hid (c_112 A 2 = si) := (hF_114 A 2 (fun q => q.elim (fun h => absurd h.1 (np0 hA rfl)) (fun q => q.elim (fun h => absurd h.1 (np0 hA rfl)) (fun h => absurd h.1 (np0 hA rfl))))).trans (hid kn_658)
              have h_660 := ir_p0_2 hJ9 hA
              have h_661 : m9 A 2 = si := wd_fv (z := 2) 2 rfl hW (ck_p0 hA) (ck_p0 hA) rfl rfl (by omega) ((up_c (np0 hA rfl)).trans ((up_c (np0 hA rfl)).trans (hid kn_659))) ⟨by omega, by omega⟩ ⟨by omega, by omega⟩
              have kn_662 : Hid (c_27 A 3 = du) := (hF_29 A 3 (fun h => absurd h.1 (np0 hA rfl))).trans (hg_du)
              have kn_663 : Hid (c_87 A 3 = du) := (hF_89 A 3 (fun h => absurd h.1 (np0 hA rfl))).trans (hid kn_662)
              have kn_664 : Hid (c_112 A 3 = du) := (hF_114 A 3 (fun q => q.elim (fun h => absurd h.1 (np0 hA rfl)) (fun q => q.elim (fun h => absurd h.1 (np0 hA rfl)) (fun h => absurd h.1 (np0 hA rfl))))).trans (hid kn_663)
              have h_665 := ir_p0_3 hJ9 hA
              have h_666 : m9 A 3 = du := wd_fv (z := 3) 3 rfl hW (ck_p0 hA) (ck_p0 hA) rfl rfl (by omega) ((up_c (np0 hA rfl)).trans ((up_c (np0 hA rfl)).trans (hid kn_664))) ⟨by omega, by omega⟩ ⟨by omega, by omega⟩
              refine q_aload_n rfl rfl ?_
              refine v_cv rfl rfl rfl rfl (by decide) ⟨⟨rfl, rfl⟩, by decide, rfl⟩ (Nat.le_of_ble_eq_true rfl) (Nat.le_of_ble_eq_true rfl) ?_
              refine q_aload_n rfl rfl ?_
              refine v_gi (z := 5) (v := (-1)) rfl rfl rfl (by decide) rfl rfl (hc_1) ?_
              refine q_iconst rfl ?_
              refine v_ic_ne_f (t := 12) rfl (by decide) (by decide) ?_
              refine q_iconst rfl ?_
              refine q_goto (t := 13) rfl (by decide) ?_
              refine v_zret rfl rfl (by decide) ?_
              refine bk_inl ?_
              refine v_if_eq_f (t := 136) rfl (by decide) (by decide) ?_
              refine q_aload_n rfl rfl ?_
              refine v_cv rfl rfl rfl rfl (by decide) ⟨⟨rfl, rfl⟩, by decide, rfl⟩ (Nat.le_of_ble_eq_true rfl) (Nat.le_of_ble_eq_true rfl) ?_
              refine q_aload_n rfl rfl ?_
              have kn_667 : Hid (c2 41 3 = e1) := (hFc 41 3 (fun q => q.elim (fun h => absurd h.2 (ni rfl)) (fun q => q.elim (fun h => absurd h.2 (ni rfl)) (fun q => q.elim (fun h => absurd h.2 (ni rfl)) (fun q => q.elim (fun h => absurd h.2 (ni rfl)) (fun q => q.elim (fun h => absurd h.2 (ni rfl)) (fun q => q.elim (fun h => absurd h.2 (ni rfl)) (fun q => q.elim (fun h => absurd h.2 (ni rfl)) (fun q => q.elim (fun h => absurd h (nn rfl)) (fun q => q.elim (fun h => absurd h (nn rfl)) (fun h => absurd h (nn rfl)))))))))))).trans (hr_e1)
              have h_668 : -2147483648 ≤ (H (nx F e1 a)) ∧ (H (nx F e1 a)) ≤ 2147483647 := by rw [← hH (nx F e1 a)]; exact ir_43 hI (nx F e1 a)
              have h_669 := hU (nx F e1 a) (by omega) (by omega)
              have h_670 := hb_or (b := H) (e := e1) (r := (nx F e1 a))
              have h_671 := hb_bd (b := H) (e := e1) (r := (nx F e1 a)) (lo := -2147483648) (hi := 2147483647) ⟨by omega, by omega⟩ (by decide)
              refine v_cv rfl rfl rfl rfl (by decide) ⟨⟨rfl, rfl⟩, by decide, rfl⟩ (Nat.le_of_ble_eq_true rfl) (Nat.le_of_ble_eq_true rfl) (f_154 (e1 := e1) (a9 := a) (B := H) (r8 := (nx F e1 a)) (r := (hb H e1 (nx F e1 a))) hI2 ((hid kn_667)) ((hr_a)) (fun j => (hFc 43 j (fun q => q.elim (fun h => absurd h.1 (nn rfl)) (fun q => q.elim (fun h => absurd h.1 (nn rfl)) (fun q => q.elim (fun h => absurd h.1 (nn rfl)) (fun q => q.elim (fun h => absurd h.1 (nn rfl)) (fun q => q.elim (fun h => absurd h.1 (nn rfl)) (fun q => q.elim (fun h => absurd h.1 (nn rfl)) (fun q => q.elim (fun h => absurd h.1 (nn rfl)) (fun q => q.elim (fun h => absurd h (nn rfl)) (fun q => q.elim (fun h => absurd h (nn rfl)) (fun h => absurd h (nn rfl)))))))))))).trans (hH j)) ((nx_tr hU (by omega) (by omega)).trans (rfl)) rfl (fun c_672 hI_673 hF_674 h_675 => ?_))
              refine bk_inl ?_
              refine q_pop rfl rfl ?_
              refine q_aload_n rfl rfl ?_
              refine v_gi (z := 4) (v := (nx F e1 a)) rfl rfl rfl (by decide) rfl rfl (h_675) ?_
              refine q_aload_n rfl rfl ?_
              have kn_676 : Hid (c_672 41 3 = e1) := (hF_674 41 3 (fun h => absurd h.2 (ni rfl))).trans (hid kn_667)
              refine v_gi (z := 3) (v := e1) rfl rfl rfl (by decide) rfl rfl (hid kn_676) ?_
              refine v_ic_ge_f (t := 20) rfl (by decide) (by omega) ?_
              refine q_iconst rfl ?_
              refine q_goto (t := 21) rfl (by decide) ?_
              refine v_zret rfl rfl (by decide) ?_
              refine bk_inl ?_
              refine v_if_eq_f (t := 136) rfl (by decide) (by decide) ?_
              refine q_aload_n rfl rfl ?_
              have h_677 := wv_bd (b := F) (r := (nx F e1 a)) (l := (ln F e1 (nx F e1 a))) (fun j h1 h2 => ⟨(ln_in (e := e1) (a := (nx F e1 a)) h1 (by omega)).1, (ln_in (e := e1) (a := (nx F e1 a)) h1 (by omega)).2.1⟩)
              have h_678 := wr8_0 (b := F) (r := (nx F e1 a)) (l := (ln F e1 (nx F e1 a))) (by omega) (fun j h1 h2 => ⟨(ln_in (e := e1) (a := (nx F e1 a)) h1 (by omega)).1, (ln_in (e := e1) (a := (nx F e1 a)) h1 (by omega)).2.1⟩) (by omega)
              refine v_cv rfl rfl rfl rfl (by decide) ⟨⟨rfl, rfl⟩, by decide, rfl⟩ (Nat.le_of_ble_eq_true rfl) (Nat.le_of_ble_eq_true rfl) (f_157 (e1 := e1) (a9 := (nx F e1 a)) (B := H) (r8 := (nx F e1 a)) (L8 := (ln F e1 (nx F e1 a))) (W8 := (wv F (nx F e1 a) (ln F e1 (nx F e1 a)))) hI_673 ((hid kn_676)) ((h_675)) (fun j => ((hF_674 43 j (fun h => absurd h.1 (nn rfl))).trans (hFc 43 j (fun q => q.elim (fun h => absurd h.1 (nn rfl)) (fun q => q.elim (fun h => absurd h.1 (nn rfl)) (fun q => q.elim (fun h => absurd h.1 (nn rfl)) (fun q => q.elim (fun h => absurd h.1 (nn rfl)) (fun q => q.elim (fun h => absurd h.1 (nn rfl)) (fun q => q.elim (fun h => absurd h.1 (nn rfl)) (fun q => q.elim (fun h => absurd h.1 (nn rfl)) (fun q => q.elim (fun h => absurd h (nn rfl)) (fun q => q.elim (fun h => absurd h (nn rfl)) (fun h => absurd h (nn rfl))))))))))))).trans (hH j)) ((nx_tr hU (by omega) (by omega)).trans ((nx_z (by omega)))) ((ln_tr hU (by omega) (by omega)).trans (rfl)) ((wv_tr hU (by omega) (by omega) (fun j h1 h2 => ⟨(ln_in (e := e1) (a := (nx F e1 a)) h1 (by omega)).1, (ln_in (e := e1) (a := (nx F e1 a)) h1 (by omega)).2.1⟩)).trans (rfl)) (fun c_679 hI_680 hF_681 hz_682 => ?_))
              refine bk_inl ?_
              refine q_istore_n rfl (by decide) ?_
              refine q_iload_n rfl rfl ?_
              refine q_call rfl rfl rfl rfl ?_
              refine q_iload_n rfl rfl ?_
              refine q_ldc_s rfl rfl rfl (by decide) ?_
              refine q_call rfl rfl rfl rfl (s_158_16 ?_)
              refine bk_inl ?_
              refine v_ic_eq_t (t := 36) rfl (by decide) (by omega) ?_
              refine q_iconst rfl ?_
              refine q_goto (t := 41) rfl (by decide) ?_
              refine v_zret rfl rfl (by decide) ?_
              refine bk_inl ?_
              refine v_if_ne_t (t := 82) rfl (by decide) (by decide) ?_
              refine q_iload_n rfl rfl ?_
              refine v_bip rfl (by decide) ?_
              refine v_ic_eq_f (t := 96) rfl (by decide) (by omega) ?_
              refine q_aload_n rfl rfl ?_
              refine q_iload_n rfl rfl ?_
              refine v_cv rfl rfl rfl rfl (by decide) ⟨⟨rfl, rfl⟩, by decide, rfl⟩ (Nat.le_of_ble_eq_true rfl) (Nat.le_of_ble_eq_true rfl) ?_
              refine q_iload_n rfl rfl ?_
              refine q_ldc_s rfl rfl rfl (by decide) ?_
              refine q_call rfl rfl rfl rfl (s_158_16 ?_)
              refine bk_inl ?_
              refine v_ic_ne_f (t := 26) rfl (by decide) (by omega) ?_
              refine q_aload_n rfl rfl ?_
              have kn_683 : Hid (c_672 41 16 = jr) := (hF_674 41 16 (fun h => absurd h.2 (ni rfl))).trans (hr_jr)
              have kn_684 : Hid (c_679 41 16 = jr) := (hF_681 41 16 (fun h => absurd h.2 (ni rfl))).trans (hid kn_683)
              refine v_gi (z := 16) (v := jr) rfl rfl rfl (by decide) rfl rfl (hid kn_684) ?_
              refine v_bip rfl (by decide) ?_
              refine v_ic_ne_f (t := 22) rfl (by decide) (by omega) ?_
              refine q_iconst rfl ?_
              refine q_goto (t := 73) rfl (by decide) ?_
              refine v_zret rfl rfl (by decide) ?_
              refine bk_inl ?_
              refine v_if_eq_f (t := 105) rfl (by decide) (by decide) ?_
              refine q_aload_n rfl rfl ?_
              refine q_iconst rfl ?_
              refine q_aload_n rfl rfl ?_
              refine v_gi (z := 4) (v := (nx F e1 a)) rfl rfl rfl (by decide) rfl rfl (hz_682) ?_
              refine v_cv rfl rfl rfl rfl (by decide) ⟨⟨rfl, rfl⟩, by decide, rfl⟩ (Nat.le_of_ble_eq_true rfl) (Nat.le_of_ble_eq_true rfl) ?_
              refine q_aload_n rfl rfl ?_
              have kn_685 : Hid (c_672 41 5 = (-1)) := (hF_674 41 5 (fun h => absurd h.2 (ni rfl))).trans (hc_1)
              have kn_686 : Hid (c_679 41 5 = (-1)) := (hF_681 41 5 (fun h => absurd h.2 (ni rfl))).trans (hid kn_685)
              refine v_gi (z := 5) (v := (-1)) rfl rfl rfl (by decide) rfl rfl (hid kn_686) ?_
              refine q_iconst rfl ?_
              refine v_ic_eq_t (t := 9) rfl (by decide) (by decide) ?_
              refine q_aload_n rfl rfl ?_
              refine q_iload_n rfl rfl ?_
              refine v_pi (z := 5) rfl rfl rfl (by decide) rfl rfl rfl (by decide) ?_
              refine q_aload_n rfl rfl ?_
              refine q_iload_n rfl rfl ?_
              refine v_pi (z := 6) rfl rfl rfl (by decide) rfl rfl rfl (by decide) ?_
              refine q_vret rfl rfl ?_
              refine bk_inl ?_
              refine q_aload_n rfl rfl ?_
              refine v_cv rfl rfl rfl rfl (by decide) ⟨⟨rfl, rfl⟩, by decide, rfl⟩ (Nat.le_of_ble_eq_true rfl) (Nat.le_of_ble_eq_true rfl) ?_
              refine q_aload_n rfl rfl ?_
              refine v_gi (z := 5) (v := (nx F e1 a)) rfl rfl rfl (by decide) rfl rfl ((up_n (by decide)).trans (up_e rfl)) ?_
              refine q_iconst rfl ?_
              refine v_ic_ne_t (t := 12) rfl (by decide) (by omega) ?_
              refine q_iconst rfl ?_
              refine v_zret rfl rfl (by decide) ?_
              refine bk_inl ?_
              refine v_if_ne_f (t := 115) rfl (by decide) (by decide) ?_
              refine q_goto (t := 136) rfl (by decide) ?_
              refine Wp_ls [(0, .ref 41), (1, vi a1)] (lsub_cons rfl (lsub_cons rfl lsub_nil)) ?_
              have hI_687 := iw_41_5 (v := (nx F e1 a)) hI_680 ⟨by omega, by omega⟩
              have hI_688 := iw_41_6 (v := 3) hI_687 ⟨by decide, by decide⟩
              have h_689 : (up (up c_679 41 5 (nx F e1 a)) 41 6 3) 41 5 = (nx F e1 a) := ((up_n (by decide)).trans (up_e rfl))
              have h_690 : (up (up c_679 41 5 (nx F e1 a)) 41 6 3) 41 4 = (nx F e1 a) := ((up_n (by decide)).trans ((up_n (by decide)).trans (hz_682)))
              have h_691 : (up (up c_679 41 5 (nx F e1 a)) 41 6 3) 41 6 = 3 := (up_e rfl)
              have h_692 : (up (up c_679 41 5 (nx F e1 a)) 41 6 3) 41 16 = jr := ((up_n (by decide)).trans ((up_n (by decide)).trans (hid kn_684)))
              have kn_693 : Hid (c_672 41 17 = st) := (hF_674 41 17 (fun h => absurd h.2 (ni rfl))).trans (hr_st)
              have kn_694 : Hid (c_679 41 17 = st) := (hF_681 41 17 (fun h => absurd h.2 (ni rfl))).trans (hid kn_693)
              have h_695 : (up (up c_679 41 5 (nx F e1 a)) 41 6 3) 41 17 = st := ((up_n (by decide)).trans ((up_n (by decide)).trans (hid kn_694)))
              have kn_696 : Hid (c_672 41 18 = si) := (hF_674 41 18 (fun h => absurd h.2 (ni rfl))).trans (hr_si)
              have kn_697 : Hid (c_679 41 18 = si) := (hF_681 41 18 (fun h => absurd h.2 (ni rfl))).trans (hid kn_696)
              have h_698 : (up (up c_679 41 5 (nx F e1 a)) 41 6 3) 41 18 = si := ((up_n (by decide)).trans ((up_n (by decide)).trans (hid kn_697)))
              have kn_699 : Hid (c_672 41 19 = du) := (hF_674 41 19 (fun h => absurd h.2 (ni rfl))).trans (hr_du)
              have kn_700 : Hid (c_679 41 19 = du) := (hF_681 41 19 (fun h => absurd h.2 (ni rfl))).trans (hid kn_699)
              have h_701 : (up (up c_679 41 5 (nx F e1 a)) 41 6 3) 41 19 = du := ((up_n (by decide)).trans ((up_n (by decide)).trans (hid kn_700)))
              have h_702 : (up (up c_679 41 5 (nx F e1 a)) 41 6 3) 41 16 = jr := ((up_n (by decide)).trans ((up_n (by decide)).trans (hid kn_684)))
              have h_703 : (up (up c_679 41 5 (nx F e1 a)) 41 6 3) 41 17 = st := ((up_n (by decide)).trans ((up_n (by decide)).trans (hid kn_694)))
              have h_704 : (up (up c_679 41 5 (nx F e1 a)) 41 6 3) 41 18 = si := ((up_n (by decide)).trans ((up_n (by decide)).trans (hid kn_697)))
              exact K (up (up c_679 41 5 (nx F e1 a)) 41 6 3)  hI_688 (fun a j hm => (up_b (Decidable.or_iff_not_imp_left.mpr (fun h1 h2 => hm (Or.inr (Or.inr (Or.inl ⟨Decidable.not_not.mp h1, h2⟩)))))).trans ((up_b (Decidable.or_iff_not_imp_left.mpr (fun h1 h2 => hm (Or.inr (Or.inl ⟨Decidable.not_not.mp h1, h2⟩))))).trans ((hF_681 a j (fun h => hm (Or.inl h))).trans ((hF_674 a j (fun h => hm (Or.inl h))).trans (hFc a j (fun q => q.elim (fun h => hm (Or.inl h)) (fun q => q.elim (fun h => hm (Or.inr (Or.inl h))) (fun q => q.elim (fun h => hm (Or.inr (Or.inr (Or.inl h)))) (fun q => q.elim (fun h => hm (Or.inr (Or.inr (Or.inr (Or.inl h))))) (fun q => q.elim (fun h => hm (Or.inr (Or.inr (Or.inr (Or.inr (Or.inl h)))))) (fun q => q.elim (fun h => hm (Or.inr (Or.inr (Or.inr (Or.inr (Or.inr (Or.inl h))))))) (fun q => q.elim (fun h => hm (Or.inr (Or.inr (Or.inr (Or.inr (Or.inr (Or.inr (Or.inl h)))))))) (fun q => q.elim (fun h => hm (Or.inr (Or.inr (Or.inr (Or.inr (Or.inr (Or.inr (Or.inr (Or.inl h))))))))) (fun q => q.elim (fun h => hm (Or.inr (Or.inr (Or.inr (Or.inr (Or.inr (Or.inr (Or.inr (Or.inr (Or.inl h)))))))))) (fun h => hm (Or.inr (Or.inr (Or.inr (Or.inr (Or.inr (Or.inr (Or.inr (Or.inr (Or.inr h)))))))))))))))))))))))) (by unfold Rt; omega) (by omega) (fun hz => absurd hz (by omega)) (fun hz => absurd hz (by omega)) (fun hz => absurd hz (by omega))
          by_cases h_705 : (wd8_0 F (nx F e1 a) (ln F e1 (nx F e1 a))) = 1
          · skip
            refine v_tsw_i (t := 43) 1 rfl (by omega) (by decide) rfl (by decide) ?_
            refine q_aload_n rfl rfl ?_
            have kn_706 : Hid (c_27 A 1 = st) := (hF_29 A 1 (fun h => absurd h.1 (np0 hA rfl))).trans (hg_st)
            have kn_707 : Hid (c_87 A 1 = st) := (hF_89 A 1 (fun h => absurd h.1 (np0 hA rfl))).trans (hid kn_706)
            have kn_708 : Hid (c_112 A 1 = st) := (hF_114 A 1 (fun q => q.elim (fun h => absurd h.1 (np0 hA rfl)) (fun q => q.elim (fun h => absurd h.1 (np0 hA rfl)) (fun h => absurd h.1 (np0 hA rfl))))).trans (hid kn_707)
            refine v_gi (z := 1) (v := st) rfl rfl (ck_p0 hA) (by omega) rfl rfl (hid kn_708) ?_
            refine q_iconst rfl ?_
            by_cases h_709 : st ≠ 4
            · refine v_ic_ne_t (t := 55) rfl (by decide) (by omega) ?_
              refine q_iconst rfl ?_
              refine v_zret rfl rfl (by decide) ?_
              refine bk_inl ?_
              refine v_if_eq_t (t := 59) rfl (by decide) (by decide) ?_
              refine q_aload_n rfl rfl ?_
              refine v_cv rfl rfl rfl rfl (by decide) ⟨⟨rfl, rfl⟩, by decide, rfl⟩ (Nat.le_of_ble_eq_true rfl) (Nat.le_of_ble_eq_true rfl) ?_
              refine q_aload_n rfl rfl ?_
              refine v_gi (z := 4) (v := 0) rfl rfl rfl (by decide) rfl rfl (hz_118) ?_
              refine v_if_ne_f (t := 11) rfl (by decide) (by decide) ?_
              refine q_iconst rfl ?_
              refine q_goto (t := 12) rfl (by decide) ?_
              refine v_zret rfl rfl (by decide) ?_
              refine bk_inl ?_
              refine v_if_eq_f (t := 73) rfl (by decide) (by decide) ?_
              refine q_aload_n rfl rfl ?_
              refine q_aload_n rfl rfl ?_
              refine q_iload rfl rfl ?_
              have hw_710 : (wd8_0 F (nx F e1 a) (ln F e1 (nx F e1 a))) = 1 := by omega
              rw [hw_710]
              have kn_711 : Hid (c_27 A 0 = jr) := (hF_29 A 0 (fun h => absurd h.1 (np0 hA rfl))).trans (hg_jr)
              have kn_712 : Hid (c_87 A 0 = jr) := (hF_89 A 0 (fun h => absurd h.1 (np0 hA rfl))).trans (hid kn_711)
              have kn_713 : Hid (c_112 A 0 = jr) := (hF_114 A 0 (fun q => q.elim (fun h => absurd h.1 (np0 hA rfl)) (fun q => q.elim (fun h => absurd h.1 (np0 hA rfl)) (fun h => absurd h.1 (np0 hA rfl))))).trans (hid kn_712)
              have h_714 : c_112 A 0 = jr := (hid kn_713)
              have h_715 : c_112 A 1 = st := (hid kn_708)
              have kn_716 : Hid (c_27 A 2 = si) := (hF_29 A 2 (fun h => absurd h.1 (np0 hA rfl))).trans (hg_si)
              have kn_717 : Hid (c_87 A 2 = si) := (hF_89 A 2 (fun h => absurd h.1 (np0 hA rfl))).trans (hid kn_716)
              have kn_718 : Hid (c_112 A 2 = si) := (hF_114 A 2 (fun q => q.elim (fun h => absurd h.1 (np0 hA rfl)) (fun q => q.elim (fun h => absurd h.1 (np0 hA rfl)) (fun h => absurd h.1 (np0 hA rfl))))).trans (hid kn_717)
              have h_719 : c_112 A 2 = si := (hid kn_718)
              refine v_cv rfl rfl rfl (ck_p0 hA) (by omega) ⟨⟨rfl, rfl⟩, by decide, rfl⟩ (Nat.le_of_ble_eq_true rfl) (Nat.le_of_ble_eq_true rfl) (fn_of (s_33 (a2 := 1) hI_113 hA (show 0 ≤ 1 ∧ 1 ≤ 100 from by omega) (by omega) (by omega) (by omega) (fun c_720 hI_721 hF_722 => ?_)))
              intro hG_723
              refine bk_inl ?_
              refine q_aload_n rfl rfl ?_
              refine q_ldc_s rfl rfl rfl (by decide) ?_
              have h_724 := ir_1_4 hI_721
              refine v_cv rfl rfl rfl rfl (by decide) ⟨⟨rfl, rfl⟩, by decide, rfl⟩ (Nat.le_of_ble_eq_true rfl) (Nat.le_of_ble_eq_true rfl) (fn_of (s_11 hI_721 (q := 9) (nt := 1) (by decide) (by decide) (by decide) (fun c_725 hI_726 hF_727 => ?_)))
              intro hG_728
              refine bk_inl ?_
              refine v_iinc (v := v + 1) rfl rfl (by decide) (by omega) ?_
              refine q_goto (t := 6) rfl (by decide) ?_
              have h_729 := ir_1_4 hI_726
              by_cases h_730 : c_725 1 4 = 0
              · skip
                refine Wp_ls [(0, .ref A), (1, .ref 1), (2, vi (v + 1))] (lsub_cons rfl (lsub_cons rfl (lsub_cons rfl lsub_nil))) ?_
                refine gh_stop (s_34_l (sc := sc) (d := dh + 18) (c := c_725) (Z := fun _ => True) hI_726 hA (fun _ _ _ => trivial) 124 c_725 (v + 1) hI_726 (fun a j hm => rfl) ⟨by omega, by omega⟩ (by omega)) (fun hG_731 => ?_)
                refine q_aload_n rfl rfl ?_
                refine v_cv rfl rfl rfl rfl (by decide) ⟨⟨rfl, rfl⟩, by decide, rfl⟩ (Nat.le_of_ble_eq_true rfl) (Nat.le_of_ble_eq_true rfl) ?_
                refine q_aload_n rfl rfl ?_
                refine v_gi (z := 5) (v := (-1)) rfl rfl rfl (by decide) rfl rfl (hc_1) ?_
                refine q_iconst rfl ?_
                refine v_ic_ne_f (t := 12) rfl (by decide) (by decide) ?_
                refine q_iconst rfl ?_
                refine q_goto (t := 13) rfl (by decide) ?_
                refine v_zret rfl rfl (by decide) ?_
                refine bk_inl ?_
                refine v_if_eq_f (t := 136) rfl (by decide) (by decide) ?_
                refine q_aload_n rfl rfl ?_
                refine v_cv rfl rfl rfl rfl (by decide) ⟨⟨rfl, rfl⟩, by decide, rfl⟩ (Nat.le_of_ble_eq_true rfl) (Nat.le_of_ble_eq_true rfl) ?_
                refine q_aload_n rfl rfl ?_
                have kn_732 : Hid (c2 41 3 = e1) := (hFc 41 3 (fun q => q.elim (fun h => absurd h.2 (ni rfl)) (fun q => q.elim (fun h => absurd h.2 (ni rfl)) (fun q => q.elim (fun h => absurd h.2 (ni rfl)) (fun q => q.elim (fun h => absurd h.2 (ni rfl)) (fun q => q.elim (fun h => absurd h.2 (ni rfl)) (fun q => q.elim (fun h => absurd h.2 (ni rfl)) (fun q => q.elim (fun h => absurd h.2 (ni rfl)) (fun q => q.elim (fun h => absurd h (nn rfl)) (fun q => q.elim (fun h => absurd h (nn rfl)) (fun h => absurd h (nn rfl)))))))))))).trans (hr_e1)
                have h_733 : -2147483648 ≤ (H (nx F e1 a)) ∧ (H (nx F e1 a)) ≤ 2147483647 := by rw [← hH (nx F e1 a)]; exact ir_43 hI (nx F e1 a)
                have h_734 := hU (nx F e1 a) (by omega) (by omega)
                have h_735 := hb_or (b := H) (e := e1) (r := (nx F e1 a))
                have h_736 := hb_bd (b := H) (e := e1) (r := (nx F e1 a)) (lo := -2147483648) (hi := 2147483647) ⟨by omega, by omega⟩ (by decide)
                refine v_cv rfl rfl rfl rfl (by decide) ⟨⟨rfl, rfl⟩, by decide, rfl⟩ (Nat.le_of_ble_eq_true rfl) (Nat.le_of_ble_eq_true rfl) (f_154 (e1 := e1) (a9 := a) (B := H) (r8 := (nx F e1 a)) (r := (hb H e1 (nx F e1 a))) hI2 ((hid kn_732)) ((hr_a)) (fun j => (hFc 43 j (fun q => q.elim (fun h => absurd h.1 (nn rfl)) (fun q => q.elim (fun h => absurd h.1 (nn rfl)) (fun q => q.elim (fun h => absurd h.1 (nn rfl)) (fun q => q.elim (fun h => absurd h.1 (nn rfl)) (fun q => q.elim (fun h => absurd h.1 (nn rfl)) (fun q => q.elim (fun h => absurd h.1 (nn rfl)) (fun q => q.elim (fun h => absurd h.1 (nn rfl)) (fun q => q.elim (fun h => absurd h (nn rfl)) (fun q => q.elim (fun h => absurd h (nn rfl)) (fun h => absurd h (nn rfl)))))))))))).trans (hH j)) ((nx_tr hU (by omega) (by omega)).trans (rfl)) rfl (fun c_737 hI_738 hF_739 h_740 => ?_))
                refine bk_inl ?_
                refine q_pop rfl rfl ?_
                refine q_aload_n rfl rfl ?_
                refine v_gi (z := 4) (v := (nx F e1 a)) rfl rfl rfl (by decide) rfl rfl (h_740) ?_
                refine q_aload_n rfl rfl ?_
                have kn_741 : Hid (c_737 41 3 = e1) := (hF_739 41 3 (fun h => absurd h.2 (ni rfl))).trans (hid kn_732)
                refine v_gi (z := 3) (v := e1) rfl rfl rfl (by decide) rfl rfl (hid kn_741) ?_
                refine v_ic_ge_f (t := 20) rfl (by decide) (by omega) ?_
                refine q_iconst rfl ?_
                refine q_goto (t := 21) rfl (by decide) ?_
                refine v_zret rfl rfl (by decide) ?_
                refine bk_inl ?_
                refine v_if_eq_f (t := 136) rfl (by decide) (by decide) ?_
                refine q_aload_n rfl rfl ?_
                have h_742 := wv_bd (b := F) (r := (nx F e1 a)) (l := (ln F e1 (nx F e1 a))) (fun j h1 h2 => ⟨(ln_in (e := e1) (a := (nx F e1 a)) h1 (by omega)).1, (ln_in (e := e1) (a := (nx F e1 a)) h1 (by omega)).2.1⟩)
                have h_743 := wr8_1 (b := F) (r := (nx F e1 a)) (l := (ln F e1 (nx F e1 a))) (by omega) (fun j h1 h2 => ⟨(ln_in (e := e1) (a := (nx F e1 a)) h1 (by omega)).1, (ln_in (e := e1) (a := (nx F e1 a)) h1 (by omega)).2.1⟩) (by omega)
                refine v_cv rfl rfl rfl rfl (by decide) ⟨⟨rfl, rfl⟩, by decide, rfl⟩ (Nat.le_of_ble_eq_true rfl) (Nat.le_of_ble_eq_true rfl) (f_157 (e1 := e1) (a9 := (nx F e1 a)) (B := H) (r8 := (nx F e1 a)) (L8 := (ln F e1 (nx F e1 a))) (W8 := (wv F (nx F e1 a) (ln F e1 (nx F e1 a)))) hI_738 ((hid kn_741)) ((h_740)) (fun j => ((hF_739 43 j (fun h => absurd h.1 (nn rfl))).trans (hFc 43 j (fun q => q.elim (fun h => absurd h.1 (nn rfl)) (fun q => q.elim (fun h => absurd h.1 (nn rfl)) (fun q => q.elim (fun h => absurd h.1 (nn rfl)) (fun q => q.elim (fun h => absurd h.1 (nn rfl)) (fun q => q.elim (fun h => absurd h.1 (nn rfl)) (fun q => q.elim (fun h => absurd h.1 (nn rfl)) (fun q => q.elim (fun h => absurd h.1 (nn rfl)) (fun q => q.elim (fun h => absurd h (nn rfl)) (fun q => q.elim (fun h => absurd h (nn rfl)) (fun h => absurd h (nn rfl))))))))))))).trans (hH j)) ((nx_tr hU (by omega) (by omega)).trans ((nx_z (by omega)))) ((ln_tr hU (by omega) (by omega)).trans (rfl)) ((wv_tr hU (by omega) (by omega) (fun j h1 h2 => ⟨(ln_in (e := e1) (a := (nx F e1 a)) h1 (by omega)).1, (ln_in (e := e1) (a := (nx F e1 a)) h1 (by omega)).2.1⟩)).trans (rfl)) (fun c_744 hI_745 hF_746 hz_747 => ?_))
                refine bk_inl ?_
                refine q_istore_n rfl (by decide) ?_
                refine q_iload_n rfl rfl ?_
                refine q_call rfl rfl rfl rfl ?_
                refine q_iload_n rfl rfl ?_
                refine q_ldc_s rfl rfl rfl (by decide) ?_
                refine q_call rfl rfl rfl rfl (s_158_16 ?_)
                refine bk_inl ?_
                refine v_ic_eq_f (t := 36) rfl (by decide) (by omega) ?_
                refine q_iload_n rfl rfl ?_
                refine q_ldc_s rfl rfl rfl (by decide) ?_
                refine q_call rfl rfl rfl rfl (s_158_17 ?_)
                refine bk_inl ?_
                refine v_ic_eq_t (t := 36) rfl (by decide) (by omega) ?_
                refine q_iconst rfl ?_
                refine q_goto (t := 41) rfl (by decide) ?_
                refine v_zret rfl rfl (by decide) ?_
                refine bk_inl ?_
                refine v_if_ne_t (t := 82) rfl (by decide) (by decide) ?_
                refine q_iload_n rfl rfl ?_
                refine v_bip rfl (by decide) ?_
                refine v_ic_eq_f (t := 96) rfl (by decide) (by omega) ?_
                refine q_aload_n rfl rfl ?_
                refine q_iload_n rfl rfl ?_
                refine v_cv rfl rfl rfl rfl (by decide) ⟨⟨rfl, rfl⟩, by decide, rfl⟩ (Nat.le_of_ble_eq_true rfl) (Nat.le_of_ble_eq_true rfl) ?_
                refine q_iload_n rfl rfl ?_
                refine q_ldc_s rfl rfl rfl (by decide) ?_
                refine q_call rfl rfl rfl rfl (s_158_16 ?_)
                refine bk_inl ?_
                refine v_ic_ne_t (t := 26) rfl (by decide) (by omega) ?_
                refine q_iload_n rfl rfl ?_
                refine q_ldc_s rfl rfl rfl (by decide) ?_
                refine q_call rfl rfl rfl rfl (s_158_17 ?_)
                refine bk_inl ?_
                refine v_ic_ne_f (t := 51) rfl (by decide) (by omega) ?_
                refine q_aload_n rfl rfl ?_
                have kn_748 : Hid (c_737 41 17 = st) := (hF_739 41 17 (fun h => absurd h.2 (ni rfl))).trans (hr_st)
                have kn_749 : Hid (c_744 41 17 = st) := (hF_746 41 17 (fun h => absurd h.2 (ni rfl))).trans (hid kn_748)
                refine v_gi (z := 17) (v := st) rfl rfl rfl (by decide) rfl rfl (hid kn_749) ?_
                refine q_iconst rfl ?_
                refine v_ic_ne_t (t := 47) rfl (by decide) (by omega) ?_
                refine q_iconst rfl ?_
                refine q_goto (t := 73) rfl (by decide) ?_
                refine v_zret rfl rfl (by decide) ?_
                refine bk_inl ?_
                refine v_if_eq_t (t := 105) rfl (by decide) (by decide) ?_
                refine q_aload_n rfl rfl ?_
                refine v_cv rfl rfl rfl rfl (by decide) ⟨⟨rfl, rfl⟩, by decide, rfl⟩ (Nat.le_of_ble_eq_true rfl) (Nat.le_of_ble_eq_true rfl) ?_
                refine q_aload_n rfl rfl ?_
                have kn_750 : Hid (c_737 41 5 = (-1)) := (hF_739 41 5 (fun h => absurd h.2 (ni rfl))).trans (hc_1)
                have kn_751 : Hid (c_744 41 5 = (-1)) := (hF_746 41 5 (fun h => absurd h.2 (ni rfl))).trans (hid kn_750)
                refine v_gi (z := 5) (v := (-1)) rfl rfl rfl (by decide) rfl rfl (hid kn_751) ?_
                refine q_iconst rfl ?_
                refine v_ic_ne_f (t := 12) rfl (by decide) (by decide) ?_
                refine q_iconst rfl ?_
                refine q_goto (t := 13) rfl (by decide) ?_
                refine v_zret rfl rfl (by decide) ?_
                refine bk_inl ?_
                refine v_if_ne_t (t := 115) rfl (by decide) (by decide) ?_
                refine q_aload_n rfl rfl ?_
                have kn_752 : Hid (c_744 41 3 = e1) := (hF_746 41 3 (fun h => absurd h.2 (ni rfl))).trans (hid kn_741)
                refine v_cv rfl rfl rfl rfl (by decide) ⟨⟨rfl, rfl⟩, by decide, rfl⟩ (Nat.le_of_ble_eq_true rfl) (Nat.le_of_ble_eq_true rfl) (f_159 (e1 := e1) (a9 := (nx F e1 a)) (B := H) (L8 := (ln F e1 (nx F e1 a))) hI_745 ((hid kn_752)) ((hz_747)) (fun j => ((hF_746 43 j (fun h => absurd h.1 (nn rfl))).trans ((hF_739 43 j (fun h => absurd h.1 (nn rfl))).trans (hFc 43 j (fun q => q.elim (fun h => absurd h.1 (nn rfl)) (fun q => q.elim (fun h => absurd h.1 (nn rfl)) (fun q => q.elim (fun h => absurd h.1 (nn rfl)) (fun q => q.elim (fun h => absurd h.1 (nn rfl)) (fun q => q.elim (fun h => absurd h.1 (nn rfl)) (fun q => q.elim (fun h => absurd h.1 (nn rfl)) (fun q => q.elim (fun h => absurd h.1 (nn rfl)) (fun q => q.elim (fun h => absurd h (nn rfl)) (fun q => q.elim (fun h => absurd h (nn rfl)) (fun h => absurd h (nn rfl)))))))))))))).trans (hH j)) ((ln_tr hU (by omega) (by omega)).trans (rfl)) (fun c_753 hI_754 hF_755 hz_756 => ?_))
                refine bk_inl ?_
                refine q_aload_n rfl rfl ?_
                refine q_iload_n rfl rfl ?_
                have hw_757 : (wv F (nx F e1 a) (ln F e1 (nx F e1 a))) = 20594117 := by omega
                rw [hw_757]
                have kn_758 : Hid (c_112 1 1 = e1) := (hF_114 1 1 (fun q => q.elim (fun h => absurd h.2 (ni rfl)) (fun q => q.elim (fun h => absurd h.2 (ni rfl)) (fun h => absurd h.2 (ni rfl))))).trans (hid kn_91)
                have kn_759 : Hid (c_753 41 3 = e1) := (hF_755 41 3 (fun h => absurd h.2 (ni rfl))).trans (hid kn_752)
                have kn_760 : Hid (c_737 41 16 = jr) := (hF_739 41 16 (fun h => absurd h.2 (ni rfl))).trans (hr_jr)
                have kn_761 : Hid (c_744 41 16 = jr) := (hF_746 41 16 (fun h => absurd h.2 (ni rfl))).trans (hid kn_760)
                have kn_762 : Hid (c_753 41 16 = jr) := (hF_755 41 16 (fun h => absurd h.2 (ni rfl))).trans (hid kn_761)
                have kn_763 : Hid (c_753 41 17 = st) := (hF_755 41 17 (fun h => absurd h.2 (ni rfl))).trans (hid kn_749)
                have kn_764 : Hid (c_737 41 18 = si) := (hF_739 41 18 (fun h => absurd h.2 (ni rfl))).trans (hr_si)
                have kn_765 : Hid (c_744 41 18 = si) := (hF_746 41 18 (fun h => absurd h.2 (ni rfl))).trans (hid kn_764)
                have kn_766 : Hid (c_753 41 18 = si) := (hF_755 41 18 (fun h => absurd h.2 (ni rfl))).trans (hid kn_765)
                have kn_767 : Hid (c_27 A 3 = du) := (hF_29 A 3 (fun h => absurd h.1 (np0 hA rfl))).trans (hg_du)
                have kn_768 : Hid (c_87 A 3 = du) := (hF_89 A 3 (fun h => absurd h.1 (np0 hA rfl))).trans (hid kn_767)
                have kn_769 : Hid (c_112 A 3 = du) := (hF_114 A 3 (fun q => q.elim (fun h => absurd h.1 (np0 hA rfl)) (fun q => q.elim (fun h => absurd h.1 (np0 hA rfl)) (fun h => absurd h.1 (np0 hA rfl))))).trans (hid kn_768)
                have kn_770 : Hid (c_737 41 19 = du) := (hF_739 41 19 (fun h => absurd h.2 (ni rfl))).trans (hr_du)
                have kn_771 : Hid (c_744 41 19 = du) := (hF_746 41 19 (fun h => absurd h.2 (ni rfl))).trans (hid kn_770)
                have kn_772 : Hid (c_753 41 19 = du) := (hF_755 41 19 (fun h => absurd h.2 (ni rfl))).trans (hid kn_771)
                have h_773 : c_112 1 4 = 0 := (hz_118)
                have h_774 : c_112 1 2 = (ln F e1 (nx F e1 a)) := (hz_117)
                have h_775 : c_112 1 5 = (-1) := (hz_119)
                have kn_776 : Hid (c_753 41 5 = (-1)) := (hF_755 41 5 (fun h => absurd h.2 (ni rfl))).trans (hid kn_751)
                have h_777 : c_753 41 5 = (-1) := (hid kn_776)
                have h_778 : c_753 41 4 = (ln F e1 (nx F e1 a)) := (hz_756)
                have h_779 := ir_41_6 hI2
                have kn_780 : Hid (c_737 41 6 = c2 41 6) := hF_739 41 6 (fun h => absurd h.2 (ni rfl))
                have kn_781 : Hid (c_744 41 6 = c2 41 6) := (hF_746 41 6 (fun h => absurd h.2 (ni rfl))).trans (hid kn_780)
                have kn_782 : Hid (c_753 41 6 = c2 41 6) := (hF_755 41 6 (fun h => absurd h.2 (ni rfl))).trans (hid kn_781)
                have h_783 : c_753 41 6 = c2 41 6 := (hid kn_782)
                have hA_784 : Ae (4 * jr) (c_112 (A + 1)) (c_753 44) := ae_fr hrl0 (fun j => (hF_114 (A + 1) j (fun q => q.elim (fun h => absurd h.1 (np hA rfl rfl)) (fun q => q.elim (fun h => absurd h.1 (np hA rfl rfl)) (fun h => absurd h.1 (np hA rfl rfl))))).trans ((hF_89 (A + 1) j (fun h => absurd h.1 (np hA rfl rfl))).trans (hF_29 (A + 1) j (fun h => absurd h.1 (np hA rfl rfl))))) (fun j => (hF_755 44 j (fun h => absurd h.1 (nn rfl))).trans ((hF_746 44 j (fun h => absurd h.1 (nn rfl))).trans (hF_739 44 j (fun h => absurd h.1 (nn rfl)))))
                have hA_785 : Ae (3 * st) (c_112 (A + 2)) (c_753 45) := ae_fr hrl1 (fun j => (hF_114 (A + 2) j (fun q => q.elim (fun h => absurd h.1 (np hA rfl rfl)) (fun q => q.elim (fun h => absurd h.1 (np hA rfl rfl)) (fun h => absurd h.1 (np hA rfl rfl))))).trans ((hF_89 (A + 2) j (fun h => absurd h.1 (np hA rfl rfl))).trans (hF_29 (A + 2) j (fun h => absurd h.1 (np hA rfl rfl))))) (fun j => (hF_755 45 j (fun h => absurd h.1 (nn rfl))).trans ((hF_746 45 j (fun h => absurd h.1 (nn rfl))).trans (hF_739 45 j (fun h => absurd h.1 (nn rfl)))))
                have hA_786 : Ae si (c_112 (A + 3)) (c_753 46) := ae_fr hrl2 (fun j => (hF_114 (A + 3) j (fun q => q.elim (fun h => absurd h.1 (np hA rfl rfl)) (fun q => q.elim (fun h => absurd h.1 (np hA rfl rfl)) (fun h => absurd h.1 (np hA rfl rfl))))).trans ((hF_89 (A + 3) j (fun h => absurd h.1 (np hA rfl rfl))).trans (hF_29 (A + 3) j (fun h => absurd h.1 (np hA rfl rfl))))) (fun j => (hF_755 46 j (fun h => absurd h.1 (nn rfl))).trans ((hF_746 46 j (fun h => absurd h.1 (nn rfl))).trans (hF_739 46 j (fun h => absurd h.1 (nn rfl)))))
                refine v_cv rfl rfl rfl rfl (by decide) ⟨⟨rfl, rfl⟩, by decide, rfl⟩ (Nat.le_of_ble_eq_true rfl) (Nat.le_of_ble_eq_true rfl) (L_33a_1 (m := c_112) (e1 := e1) (jr := jr) (st := st) (si := si) (du := du) (F := F) (H := H) hI_754 hI_113 hI_721 hA (by omega) ((hid kn_758)) ((hid kn_759)) ((hid kn_713)) ((hid kn_762)) ((hid kn_708)) ((hid kn_763)) ((hid kn_718)) ((hid kn_766)) ((hid kn_769)) ((hid kn_772)) (fun j => ((hF_114 2 j (fun q => q.elim (fun h => absurd h.1 (nn rfl)) (fun q => q.elim (fun h => absurd h.1 (nn rfl)) (fun h => absurd h.1 (nn rfl))))).trans ((hF_89 2 j (fun h => absurd h.1 (nn rfl))).trans ((hF_29 2 j (fun h => absurd h.1 (nn rfl))).trans (hFm 2 j (fun q => q.elim (fun h => absurd h.1 (nn rfl)) (fun q => q.elim (fun h => absurd h.1 (nn rfl)) (fun q => q.elim (fun h => absurd h.1 (nn rfl)) (fun q => q.elim (fun h => absurd h.1 (pn0 hA rfl)) (fun q => q.elim (fun h => absurd h.1 (pn0 hA rfl)) (fun q => q.elim (fun h => absurd h.1 (pn0 hA rfl)) (fun q => q.elim (fun h => absurd h.1 (pn0 hA rfl)) (fun q => q.elim (fun h => absurd h (pn hA rfl rfl)) (fun q => q.elim (fun h => absurd h (pn hA rfl rfl)) (fun q => q.elim (fun h => absurd h (pn hA rfl rfl)) (fun q => q.elim (fun h => absurd h.1 (pn0 hA rfl)) (fun q => q.elim (fun h => absurd h.1 (pn0 hA rfl)) (fun q => q.elim (fun h => absurd h (pn hA rfl rfl)) (fun h => absurd h.1 (pn hA rfl rfl))))))))))))))))))).trans (hF j)) (fun j => ((hF_755 43 j (fun h => absurd h.1 (nn rfl))).trans ((hF_746 43 j (fun h => absurd h.1 (nn rfl))).trans ((hF_739 43 j (fun h => absurd h.1 (nn rfl))).trans (hFc 43 j (fun q => q.elim (fun h => absurd h.1 (nn rfl)) (fun q => q.elim (fun h => absurd h.1 (nn rfl)) (fun q => q.elim (fun h => absurd h.1 (nn rfl)) (fun q => q.elim (fun h => absurd h.1 (nn rfl)) (fun q => q.elim (fun h => absurd h.1 (nn rfl)) (fun q => q.elim (fun h => absurd h.1 (nn rfl)) (fun q => q.elim (fun h => absurd h.1 (nn rfl)) (fun q => q.elim (fun h => absurd h (nn rfl)) (fun q => q.elim (fun h => absurd h (nn rfl)) (fun h => absurd h (nn rfl))))))))))))))).trans (hH j)) hU (by unfold Rt; omega) (ae_le hA_784 (by omega)) (ae_le hA_785 (by omega)) (ae_le hA_786 (by omega)) hG_723 (fun c_787 hI_788 hF_789 hR_791 h_792 h_793 h_794 h_795 hA_796 hA_797 hA_798 => ?_))
                refine bk_inl ?_
                have h_799 := ir_41_16 hI_788
                have h_800 := ir_p0_0 hI_721 hA
                have h_801 := ir_41_17 hI_788
                have h_802 := ir_p0_1 hI_721 hA
                have h_803 := ir_41_18 hI_788
                have h_804 := ir_p0_2 hI_721 hA
                have h_805 := ir_41_19 hI_788
                have h_806 := ir_p0_3 hI_721 hA
                refine q_aload_n rfl rfl ?_
                refine v_bip rfl (by decide) ?_
                have kn_807 : Hid (c_720 1 1 = e1) := (hF_722 1 1 (fun q => q.elim (fun h => absurd h.2 (ni rfl)) (fun q => q.elim (fun h => absurd h.2 (ni rfl)) (fun q => q.elim (fun h => absurd h.2 (ni rfl)) (fun q => q.elim (fun h => absurd h.1 (pn0 hA rfl)) (fun q => q.elim (fun h => absurd h.1 (pn0 hA rfl)) (fun q => q.elim (fun h => absurd h.1 (pn0 hA rfl)) (fun q => q.elim (fun h => absurd h.1 (pn0 hA rfl)) (fun q => q.elim (fun h => absurd h (pn hA rfl rfl)) (fun q => q.elim (fun h => absurd h (pn hA rfl rfl)) (fun h => absurd h (pn hA rfl rfl)))))))))))).trans (hid kn_758)
                have kn_808 : Hid (c_787 41 3 = e1) := (hF_789 41 3 (fun q => q.elim (fun h => absurd h.2 (ni rfl)) (fun q => q.elim (fun h => absurd h.2 (ni rfl)) (fun q => q.elim (fun h => absurd h.2 (ni rfl)) (fun q => q.elim (fun h => absurd h.2 (ni rfl)) (fun q => q.elim (fun h => absurd h.2 (ni rfl)) (fun q => q.elim (fun h => absurd h.2 (ni rfl)) (fun q => q.elim (fun h => absurd h.2 (ni rfl)) (fun q => q.elim (fun h => absurd h (nn rfl)) (fun q => q.elim (fun h => absurd h (nn rfl)) (fun h => absurd h (nn rfl)))))))))))).trans (hid kn_759)
                have h_809 := ir_1_2 hI_721
                refine v_cv rfl rfl rfl rfl (by decide) ⟨⟨rfl, rfl⟩, by decide, rfl⟩ (Nat.le_of_ble_eq_true rfl) (Nat.le_of_ble_eq_true rfl) (L_11_9 (m := c_720) (e1 := e1) (a9 := c_720 1 2) (F := F) (H := H) hI_788 hI_721 hI_726 ((hid kn_807)) ((hid kn_808)) (rfl) (fun j => ((hF_722 2 j (fun q => q.elim (fun h => absurd h.1 (nn rfl)) (fun q => q.elim (fun h => absurd h.1 (nn rfl)) (fun q => q.elim (fun h => absurd h.1 (nn rfl)) (fun q => q.elim (fun h => absurd h.1 (pn0 hA rfl)) (fun q => q.elim (fun h => absurd h.1 (pn0 hA rfl)) (fun q => q.elim (fun h => absurd h.1 (pn0 hA rfl)) (fun q => q.elim (fun h => absurd h.1 (pn0 hA rfl)) (fun q => q.elim (fun h => absurd h (pn hA rfl rfl)) (fun q => q.elim (fun h => absurd h (pn hA rfl rfl)) (fun h => absurd h (pn hA rfl rfl)))))))))))).trans ((hF_114 2 j (fun q => q.elim (fun h => absurd h.1 (nn rfl)) (fun q => q.elim (fun h => absurd h.1 (nn rfl)) (fun h => absurd h.1 (nn rfl))))).trans ((hF_89 2 j (fun h => absurd h.1 (nn rfl))).trans ((hF_29 2 j (fun h => absurd h.1 (nn rfl))).trans (hFm 2 j (fun q => q.elim (fun h => absurd h.1 (nn rfl)) (fun q => q.elim (fun h => absurd h.1 (nn rfl)) (fun q => q.elim (fun h => absurd h.1 (nn rfl)) (fun q => q.elim (fun h => absurd h.1 (pn0 hA rfl)) (fun q => q.elim (fun h => absurd h.1 (pn0 hA rfl)) (fun q => q.elim (fun h => absurd h.1 (pn0 hA rfl)) (fun q => q.elim (fun h => absurd h.1 (pn0 hA rfl)) (fun q => q.elim (fun h => absurd h (pn hA rfl rfl)) (fun q => q.elim (fun h => absurd h (pn hA rfl rfl)) (fun q => q.elim (fun h => absurd h (pn hA rfl rfl)) (fun q => q.elim (fun h => absurd h.1 (pn0 hA rfl)) (fun q => q.elim (fun h => absurd h.1 (pn0 hA rfl)) (fun q => q.elim (fun h => absurd h (pn hA rfl rfl)) (fun h => absurd h.1 (pn hA rfl rfl)))))))))))))))))))).trans (hF j)) (fun j => ((hF_789 43 j (fun q => q.elim (fun h => absurd h.1 (nn rfl)) (fun q => q.elim (fun h => absurd h.1 (nn rfl)) (fun q => q.elim (fun h => absurd h.1 (nn rfl)) (fun q => q.elim (fun h => absurd h.1 (nn rfl)) (fun q => q.elim (fun h => absurd h.1 (nn rfl)) (fun q => q.elim (fun h => absurd h.1 (nn rfl)) (fun q => q.elim (fun h => absurd h.1 (nn rfl)) (fun q => q.elim (fun h => absurd h (nn rfl)) (fun q => q.elim (fun h => absurd h (nn rfl)) (fun h => absurd h (nn rfl)))))))))))).trans ((hF_755 43 j (fun h => absurd h.1 (nn rfl))).trans ((hF_746 43 j (fun h => absurd h.1 (nn rfl))).trans ((hF_739 43 j (fun h => absurd h.1 (nn rfl))).trans (hFc 43 j (fun q => q.elim (fun h => absurd h.1 (nn rfl)) (fun q => q.elim (fun h => absurd h.1 (nn rfl)) (fun q => q.elim (fun h => absurd h.1 (nn rfl)) (fun q => q.elim (fun h => absurd h.1 (nn rfl)) (fun q => q.elim (fun h => absurd h.1 (nn rfl)) (fun q => q.elim (fun h => absurd h.1 (nn rfl)) (fun q => q.elim (fun h => absurd h.1 (nn rfl)) (fun q => q.elim (fun h => absurd h (nn rfl)) (fun q => q.elim (fun h => absurd h (nn rfl)) (fun h => absurd h (nn rfl)))))))))))))))).trans (hH j)) hU hR_791 hG_728 (fun c_810 hI_811 hF_812 hR_814 h_815 => ?_))
                refine bk_inl ?_
                have h_816 := ir_1_2 hI_726
                refine v_iinc (v := v + 1) rfl rfl (by decide) (by omega) ?_
                refine q_goto (t := 44) rfl (by decide) ?_
                refine Wp_ls [(0, .ref 41), (1, vi a1), (2, vi (v + 1))] (lsub_cons rfl (lsub_cons rfl (lsub_cons rfl lsub_nil))) ?_
                have h_817 := ir_41_4 hI_811
                have h_818 := ir_1_5 hI_726
                have h_819 := ir_41_5 hI_811
                have h_820 := ir_41_6 hI_811
                have h_821 := rt_ok hR_814 (by omega)
                have hro_hR_814 := rt_ok hR_814 (by omega)
                have kn_822 : Hid (c_725 A 0 = c_720 A 0) := hF_727 A 0 (fun q => q.elim (fun h => absurd h.1 (np0 hA rfl)) (fun q => q.elim (fun h => absurd h.1 (np0 hA rfl)) (fun h => absurd h.1 (np0 hA rfl))))
                have kn_823 : Hid (c_810 41 16 = c_787 41 16) := hF_812 41 16 (fun q => q.elim (fun h => absurd h.2 (ni rfl)) (fun q => q.elim (fun h => absurd h.2 (ni rfl)) (fun h => absurd h.2 (ni rfl))))
                have kn_824 : Hid (c_725 A 1 = c_720 A 1) := hF_727 A 1 (fun q => q.elim (fun h => absurd h.1 (np0 hA rfl)) (fun q => q.elim (fun h => absurd h.1 (np0 hA rfl)) (fun h => absurd h.1 (np0 hA rfl))))
                have kn_825 : Hid (c_810 41 17 = c_787 41 17) := hF_812 41 17 (fun q => q.elim (fun h => absurd h.2 (ni rfl)) (fun q => q.elim (fun h => absurd h.2 (ni rfl)) (fun h => absurd h.2 (ni rfl))))
                have kn_826 : Hid (c_725 A 2 = c_720 A 2) := hF_727 A 2 (fun q => q.elim (fun h => absurd h.1 (np0 hA rfl)) (fun q => q.elim (fun h => absurd h.1 (np0 hA rfl)) (fun h => absurd h.1 (np0 hA rfl))))
                have kn_827 : Hid (c_810 41 18 = c_787 41 18) := hF_812 41 18 (fun q => q.elim (fun h => absurd h.2 (ni rfl)) (fun q => q.elim (fun h => absurd h.2 (ni rfl)) (fun h => absurd h.2 (ni rfl))))
                have kn_828 : Hid (c_725 A 3 = c_720 A 3) := hF_727 A 3 (fun q => q.elim (fun h => absurd h.1 (np0 hA rfl)) (fun q => q.elim (fun h => absurd h.1 (np0 hA rfl)) (fun h => absurd h.1 (np0 hA rfl))))
                have kn_829 : Hid (c_810 41 19 = c_787 41 19) := hF_812 41 19 (fun q => q.elim (fun h => absurd h.2 (ni rfl)) (fun q => q.elim (fun h => absurd h.2 (ni rfl)) (fun h => absurd h.2 (ni rfl))))
                have hA_830 : Ae (4 * c_787 41 16) (c_725 (A + 1)) (c_810 44) := ae_fr hA_796 (fun j => hF_727 (A + 1) j (fun q => q.elim (fun h => absurd h.1 (np hA rfl rfl)) (fun q => q.elim (fun h => absurd h.1 (np hA rfl rfl)) (fun h => absurd h.1 (np hA rfl rfl))))) (fun j => hF_812 44 j (fun q => q.elim (fun h => absurd h.1 (nn rfl)) (fun q => q.elim (fun h => absurd h.1 (nn rfl)) (fun h => absurd h.1 (nn rfl)))))
                have hA_831 : Ae (4 * c_720 A 0) (c_725 (A + 1)) (c_810 44) := ae_le hA_830 (by omega)
                have hA_832 : Ae (3 * c_787 41 17) (c_725 (A + 2)) (c_810 45) := ae_fr hA_797 (fun j => hF_727 (A + 2) j (fun q => q.elim (fun h => absurd h.1 (np hA rfl rfl)) (fun q => q.elim (fun h => absurd h.1 (np hA rfl rfl)) (fun h => absurd h.1 (np hA rfl rfl))))) (fun j => hF_812 45 j (fun q => q.elim (fun h => absurd h.1 (nn rfl)) (fun q => q.elim (fun h => absurd h.1 (nn rfl)) (fun h => absurd h.1 (nn rfl)))))
                have hA_833 : Ae (3 * c_720 A 1) (c_725 (A + 2)) (c_810 45) := ae_le hA_832 (by omega)
                have hA_834 : Ae (c_787 41 18) (c_725 (A + 3)) (c_810 46) := ae_fr hA_798 (fun j => hF_727 (A + 3) j (fun q => q.elim (fun h => absurd h.1 (np hA rfl rfl)) (fun q => q.elim (fun h => absurd h.1 (np hA rfl rfl)) (fun h => absurd h.1 (np hA rfl rfl))))) (fun j => hF_812 46 j (fun q => q.elim (fun h => absurd h.1 (nn rfl)) (fun q => q.elim (fun h => absurd h.1 (nn rfl)) (fun h => absurd h.1 (nn rfl)))))
                have hA_835 : Ae (c_720 A 2) (c_725 (A + 3)) (c_810 46) := ae_le hA_834 (by omega)
                exact ih c_810 c_725 (v + 1) (c_725 1 2) (c_720 A 0) (c_720 A 1) (c_720 A 2) (c_720 A 3) hI_811 (fun a j hm => (hF_812 a j (fun q => q.elim (fun h => hm (Or.inl h)) (fun q => q.elim (fun h => hm (Or.inr (Or.inl h))) (fun h => hm (Or.inr (Or.inr (Or.inl h))))))).trans ((hF_789 a j (fun q => q.elim (fun h => hm (Or.inl h)) (fun q => q.elim (fun h => hm (Or.inr (Or.inl h))) (fun q => q.elim (fun h => hm (Or.inr (Or.inr (Or.inl h)))) (fun q => q.elim (fun h => hm (Or.inr (Or.inr (Or.inr (Or.inl h))))) (fun q => q.elim (fun h => hm (Or.inr (Or.inr (Or.inr (Or.inr (Or.inl h)))))) (fun q => q.elim (fun h => hm (Or.inr (Or.inr (Or.inr (Or.inr (Or.inr (Or.inl h))))))) (fun q => q.elim (fun h => hm (Or.inr (Or.inr (Or.inr (Or.inr (Or.inr (Or.inr (Or.inl h)))))))) (fun q => q.elim (fun h => hm (Or.inr (Or.inr (Or.inr (Or.inr (Or.inr (Or.inr (Or.inr (Or.inl h))))))))) (fun q => q.elim (fun h => hm (Or.inr (Or.inr (Or.inr (Or.inr (Or.inr (Or.inr (Or.inr (Or.inr (Or.inl h)))))))))) (fun h => hm (Or.inr (Or.inr (Or.inr (Or.inr (Or.inr (Or.inr (Or.inr (Or.inr (Or.inr h)))))))))))))))))))).trans ((hF_755 a j (fun h => hm (Or.inl h))).trans ((hF_746 a j (fun h => hm (Or.inl h))).trans ((hF_739 a j (fun h => hm (Or.inl h))).trans (hFc a j (fun q => q.elim (fun h => hm (Or.inl h)) (fun q => q.elim (fun h => hm (Or.inr (Or.inl h))) (fun q => q.elim (fun h => hm (Or.inr (Or.inr (Or.inl h)))) (fun q => q.elim (fun h => hm (Or.inr (Or.inr (Or.inr (Or.inl h))))) (fun q => q.elim (fun h => hm (Or.inr (Or.inr (Or.inr (Or.inr (Or.inl h)))))) (fun q => q.elim (fun h => hm (Or.inr (Or.inr (Or.inr (Or.inr (Or.inr (Or.inl h))))))) (fun q => q.elim (fun h => hm (Or.inr (Or.inr (Or.inr (Or.inr (Or.inr (Or.inr (Or.inl h)))))))) (fun q => q.elim (fun h => hm (Or.inr (Or.inr (Or.inr (Or.inr (Or.inr (Or.inr (Or.inr (Or.inl h))))))))) (fun q => q.elim (fun h => hm (Or.inr (Or.inr (Or.inr (Or.inr (Or.inr (Or.inr (Or.inr (Or.inr (Or.inl h)))))))))) (fun h => hm (Or.inr (Or.inr (Or.inr (Or.inr (Or.inr (Or.inr (Or.inr (Or.inr (Or.inr h))))))))))))))))))))))))) hI_726 (fun a j hm => (hF_727 a j (fun q => q.elim (fun h => hm (Or.inl h)) (fun q => q.elim (fun h => hm (Or.inr (Or.inl h))) (fun h => hm (Or.inr (Or.inr (Or.inl h))))))).trans ((hF_722 a j (fun q => q.elim (fun h => hm (Or.inl h)) (fun q => q.elim (fun h => hm (Or.inr (Or.inl h))) (fun q => q.elim (fun h => hm (Or.inr (Or.inr (Or.inl h)))) (fun q => q.elim (fun h => hm (Or.inr (Or.inr (Or.inr (Or.inl h))))) (fun q => q.elim (fun h => hm (Or.inr (Or.inr (Or.inr (Or.inr (Or.inl h)))))) (fun q => q.elim (fun h => hm (Or.inr (Or.inr (Or.inr (Or.inr (Or.inr (Or.inl h))))))) (fun q => q.elim (fun h => hm (Or.inr (Or.inr (Or.inr (Or.inr (Or.inr (Or.inr (Or.inl h)))))))) (fun q => q.elim (fun h => hm (Or.inr (Or.inr (Or.inr (Or.inr (Or.inr (Or.inr (Or.inr (Or.inl h))))))))) (fun q => q.elim (fun h => hm (Or.inr (Or.inr (Or.inr (Or.inr (Or.inr (Or.inr (Or.inr (Or.inr (Or.inl h)))))))))) (fun h => hm (Or.inr (Or.inr (Or.inr (Or.inr (Or.inr (Or.inr (Or.inr (Or.inr (Or.inr (Or.inl h))))))))))))))))))))).trans ((hF_114 a j (fun q => q.elim (fun h => hm (Or.inl h)) (fun q => q.elim (fun h => hm (Or.inr (Or.inl h))) (fun h => hm (Or.inr (Or.inr (Or.inl h))))))).trans ((hF_89 a j (fun h => hm (Or.inl h))).trans ((hF_29 a j (fun h => hm (Or.inl h))).trans (hFm a j (fun q => q.elim (fun h => hm (Or.inl h)) (fun q => q.elim (fun h => hm (Or.inr (Or.inl h))) (fun q => q.elim (fun h => hm (Or.inr (Or.inr (Or.inl h)))) (fun q => q.elim (fun h => hm (Or.inr (Or.inr (Or.inr (Or.inl h))))) (fun q => q.elim (fun h => hm (Or.inr (Or.inr (Or.inr (Or.inr (Or.inl h)))))) (fun q => q.elim (fun h => hm (Or.inr (Or.inr (Or.inr (Or.inr (Or.inr (Or.inl h))))))) (fun q => q.elim (fun h => hm (Or.inr (Or.inr (Or.inr (Or.inr (Or.inr (Or.inr (Or.inl h)))))))) (fun q => q.elim (fun h => hm (Or.inr (Or.inr (Or.inr (Or.inr (Or.inr (Or.inr (Or.inr (Or.inl h))))))))) (fun q => q.elim (fun h => hm (Or.inr (Or.inr (Or.inr (Or.inr (Or.inr (Or.inr (Or.inr (Or.inr (Or.inl h)))))))))) (fun q => q.elim (fun h => hm (Or.inr (Or.inr (Or.inr (Or.inr (Or.inr (Or.inr (Or.inr (Or.inr (Or.inr (Or.inl h))))))))))) (fun q => q.elim (fun h => hm (Or.inr (Or.inr (Or.inr (Or.inr (Or.inr (Or.inr (Or.inr (Or.inr (Or.inr (Or.inr (Or.inl h)))))))))))) (fun q => q.elim (fun h => hm (Or.inr (Or.inr (Or.inr (Or.inr (Or.inr (Or.inr (Or.inr (Or.inr (Or.inr (Or.inr (Or.inr (Or.inl h))))))))))))) (fun q => q.elim (fun h => hm (Or.inr (Or.inr (Or.inr (Or.inr (Or.inr (Or.inr (Or.inr (Or.inr (Or.inr (Or.inr (Or.inr (Or.inr (Or.inl h)))))))))))))) (fun h => hm (Or.inr (Or.inr (Or.inr (Or.inr (Or.inr (Or.inr (Or.inr (Or.inr (Or.inr (Or.inr (Or.inr (Or.inr (Or.inr h))))))))))))))))))))))))))))))))) ⟨by omega, by omega⟩ ⟨by omega, by omega⟩ ⟨by omega, by omega⟩ ⟨by omega, by omega⟩ ⟨by omega, by omega⟩ ⟨by omega, by omega⟩ (rfl) (hro_hR_814.2.2.1) ((hid kn_822)) ((show _ = c_787 41 16 from (hid kn_823)).trans (by omega)) ((hid kn_824)) ((show _ = c_787 41 17 from (hid kn_825)).trans (by omega)) ((hid kn_826)) ((show _ = c_787 41 18 from (hid kn_827)).trans (by omega)) ((hid kn_828)) ((show _ = c_787 41 19 from (hid kn_829)).trans (by omega)) ((show _ = c_725 1 4 from rfl).trans (by omega)) (hro_hR_814.2.1) ((show _ = c_725 1 5 from rfl).trans (by omega)) (ae_le hA_831 (by omega)) (ae_le hA_833 (by omega)) (ae_le hA_835 (by omega)) hG_731 (by omega)
              · skip
                refine q_iload_n rfl rfl ?_
                refine v_bip rfl (by decide) ?_
                refine v_ic_gt_f (t := 85) rfl (by decide) (by omega) ?_
                refine q_aload_n rfl rfl ?_
                refine v_cv rfl rfl rfl rfl (by decide) ⟨⟨rfl, rfl⟩, by decide, rfl⟩ (Nat.le_of_ble_eq_true rfl) (Nat.le_of_ble_eq_true rfl) ?_
                refine q_aload_n rfl rfl ?_
                refine v_cv rfl rfl rfl rfl (by decide) ⟨⟨rfl, rfl⟩, by decide, rfl⟩ (Nat.le_of_ble_eq_true rfl) (Nat.le_of_ble_eq_true rfl) ?_
                refine q_aload_n rfl rfl ?_
                refine v_gi (z := 4) (v := c_725 1 4) rfl rfl rfl (by decide) rfl rfl rfl ?_
                refine v_if_ne_t (t := 11) rfl (by decide) (by omega) ?_
                refine q_iconst rfl ?_
                refine v_zret rfl rfl (by decide) ?_
                refine bk_inl ?_
                refine v_if_eq_t (t := 22) rfl (by decide) (by decide) ?_
                refine q_iconst rfl ?_
                refine v_zret rfl rfl (by decide) ?_
                refine bk_inl ?_
                refine v_if_eq_t (t := 85) rfl (by decide) (by decide) ?_
                refine q_vret rfl rfl ?_
                intro hE_836
                have hW : Wd P Q P P c_725 = Wd P Q P P m9 := (Prod.mk.inj (Prod.mk.inj hE_836).2).1
                have h_837 := ir_1_4 hJ9
                have h_838 : m9 1 4 = c_725 1 4 := wd_fv (z := 4) 4 rfl hW rfl rfl rfl rfl (by decide) rfl ⟨by omega, by omega⟩ ⟨by omega, by omega⟩
                have h_839 := ir_1_2 hI_726
                have h_840 := ir_1_2 hJ9
                have h_841 : m9 1 2 = c_725 1 2 := wd_fv (z := 2) 2 rfl hW rfl rfl rfl rfl (by decide) rfl ⟨by omega, by omega⟩ ⟨by omega, by omega⟩
                have h_842 := ir_1_5 hI_726
                have h_843 := ir_1_5 hJ9
                have h_844 : m9 1 5 = c_725 1 5 := wd_fv (z := 5) 5 rfl hW rfl rfl rfl rfl (by decide) rfl ⟨by omega, by omega⟩ ⟨by omega, by omega⟩
                have h_845 := ir_p0_0 hI_721 hA
                have kn_846 : Hid (c_725 A 0 = c_720 A 0) := hF_727 A 0 (fun q => q.elim (fun h => absurd h.1 (np0 hA rfl)) (fun q => q.elim (fun h => absurd h.1 (np0 hA rfl)) (fun h => absurd h.1 (np0 hA rfl))))
                have h_847 := ir_p0_0 hJ9 hA
                have h_848 : m9 A 0 = c_720 A 0 := wd_fv (z := 0) 0 rfl hW (ck_p0 hA) (ck_p0 hA) rfl rfl (by omega) (hid kn_846) ⟨by omega, by omega⟩ ⟨by omega, by omega⟩
                have h_849 := ir_p0_1 hI_721 hA
                have kn_850 : Hid (c_725 A 1 = c_720 A 1) := hF_727 A 1 (fun q => q.elim (fun h => absurd h.1 (np0 hA rfl)) (fun q => q.elim (fun h => absurd h.1 (np0 hA rfl)) (fun h => absurd h.1 (np0 hA rfl))))
                have h_851 := ir_p0_1 hJ9 hA
                have h_852 : m9 A 1 = c_720 A 1 := wd_fv (z := 1) 1 rfl hW (ck_p0 hA) (ck_p0 hA) rfl rfl (by omega) (hid kn_850) ⟨by omega, by omega⟩ ⟨by omega, by omega⟩
                have h_853 := ir_p0_2 hI_721 hA
                have kn_854 : Hid (c_725 A 2 = c_720 A 2) := hF_727 A 2 (fun q => q.elim (fun h => absurd h.1 (np0 hA rfl)) (fun q => q.elim (fun h => absurd h.1 (np0 hA rfl)) (fun h => absurd h.1 (np0 hA rfl))))
                have h_855 := ir_p0_2 hJ9 hA
                have h_856 : m9 A 2 = c_720 A 2 := wd_fv (z := 2) 2 rfl hW (ck_p0 hA) (ck_p0 hA) rfl rfl (by omega) (hid kn_854) ⟨by omega, by omega⟩ ⟨by omega, by omega⟩
                have h_857 := ir_p0_3 hI_721 hA
                have kn_858 : Hid (c_725 A 3 = c_720 A 3) := hF_727 A 3 (fun q => q.elim (fun h => absurd h.1 (np0 hA rfl)) (fun q => q.elim (fun h => absurd h.1 (np0 hA rfl)) (fun h => absurd h.1 (np0 hA rfl))))
                have h_859 := ir_p0_3 hJ9 hA
                have h_860 : m9 A 3 = c_720 A 3 := wd_fv (z := 3) 3 rfl hW (ck_p0 hA) (ck_p0 hA) rfl rfl (by omega) (hid kn_858) ⟨by omega, by omega⟩ ⟨by omega, by omega⟩
                refine q_aload_n rfl rfl ?_
                refine v_cv rfl rfl rfl rfl (by decide) ⟨⟨rfl, rfl⟩, by decide, rfl⟩ (Nat.le_of_ble_eq_true rfl) (Nat.le_of_ble_eq_true rfl) ?_
                refine q_aload_n rfl rfl ?_
                refine v_gi (z := 5) (v := (-1)) rfl rfl rfl (by decide) rfl rfl (hc_1) ?_
                refine q_iconst rfl ?_
                refine v_ic_ne_f (t := 12) rfl (by decide) (by decide) ?_
                refine q_iconst rfl ?_
                refine q_goto (t := 13) rfl (by decide) ?_
                refine v_zret rfl rfl (by decide) ?_
                refine bk_inl ?_
                refine v_if_eq_f (t := 136) rfl (by decide) (by decide) ?_
                refine q_aload_n rfl rfl ?_
                refine v_cv rfl rfl rfl rfl (by decide) ⟨⟨rfl, rfl⟩, by decide, rfl⟩ (Nat.le_of_ble_eq_true rfl) (Nat.le_of_ble_eq_true rfl) ?_
                refine q_aload_n rfl rfl ?_
                have kn_861 : Hid (c2 41 3 = e1) := (hFc 41 3 (fun q => q.elim (fun h => absurd h.2 (ni rfl)) (fun q => q.elim (fun h => absurd h.2 (ni rfl)) (fun q => q.elim (fun h => absurd h.2 (ni rfl)) (fun q => q.elim (fun h => absurd h.2 (ni rfl)) (fun q => q.elim (fun h => absurd h.2 (ni rfl)) (fun q => q.elim (fun h => absurd h.2 (ni rfl)) (fun q => q.elim (fun h => absurd h.2 (ni rfl)) (fun q => q.elim (fun h => absurd h (nn rfl)) (fun q => q.elim (fun h => absurd h (nn rfl)) (fun h => absurd h (nn rfl)))))))))))).trans (hr_e1)
                have h_862 : -2147483648 ≤ (H (nx F e1 a)) ∧ (H (nx F e1 a)) ≤ 2147483647 := by rw [← hH (nx F e1 a)]; exact ir_43 hI (nx F e1 a)
                have h_863 := hU (nx F e1 a) (by omega) (by omega)
                have h_864 := hb_or (b := H) (e := e1) (r := (nx F e1 a))
                have h_865 := hb_bd (b := H) (e := e1) (r := (nx F e1 a)) (lo := -2147483648) (hi := 2147483647) ⟨by omega, by omega⟩ (by decide)
                refine v_cv rfl rfl rfl rfl (by decide) ⟨⟨rfl, rfl⟩, by decide, rfl⟩ (Nat.le_of_ble_eq_true rfl) (Nat.le_of_ble_eq_true rfl) (f_154 (e1 := e1) (a9 := a) (B := H) (r8 := (nx F e1 a)) (r := (hb H e1 (nx F e1 a))) hI2 ((hid kn_861)) ((hr_a)) (fun j => (hFc 43 j (fun q => q.elim (fun h => absurd h.1 (nn rfl)) (fun q => q.elim (fun h => absurd h.1 (nn rfl)) (fun q => q.elim (fun h => absurd h.1 (nn rfl)) (fun q => q.elim (fun h => absurd h.1 (nn rfl)) (fun q => q.elim (fun h => absurd h.1 (nn rfl)) (fun q => q.elim (fun h => absurd h.1 (nn rfl)) (fun q => q.elim (fun h => absurd h.1 (nn rfl)) (fun q => q.elim (fun h => absurd h (nn rfl)) (fun q => q.elim (fun h => absurd h (nn rfl)) (fun h => absurd h (nn rfl)))))))))))).trans (hH j)) ((nx_tr hU (by omega) (by omega)).trans (rfl)) rfl (fun c_866 hI_867 hF_868 h_869 => ?_))
                refine bk_inl ?_
                refine q_pop rfl rfl ?_
                refine q_aload_n rfl rfl ?_
                refine v_gi (z := 4) (v := (nx F e1 a)) rfl rfl rfl (by decide) rfl rfl (h_869) ?_
                refine q_aload_n rfl rfl ?_
                have kn_870 : Hid (c_866 41 3 = e1) := (hF_868 41 3 (fun h => absurd h.2 (ni rfl))).trans (hid kn_861)
                refine v_gi (z := 3) (v := e1) rfl rfl rfl (by decide) rfl rfl (hid kn_870) ?_
                refine v_ic_ge_f (t := 20) rfl (by decide) (by omega) ?_
                refine q_iconst rfl ?_
                refine q_goto (t := 21) rfl (by decide) ?_
                refine v_zret rfl rfl (by decide) ?_
                refine bk_inl ?_
                refine v_if_eq_f (t := 136) rfl (by decide) (by decide) ?_
                refine q_aload_n rfl rfl ?_
                have h_871 := wv_bd (b := F) (r := (nx F e1 a)) (l := (ln F e1 (nx F e1 a))) (fun j h1 h2 => ⟨(ln_in (e := e1) (a := (nx F e1 a)) h1 (by omega)).1, (ln_in (e := e1) (a := (nx F e1 a)) h1 (by omega)).2.1⟩)
                have h_872 := wr8_1 (b := F) (r := (nx F e1 a)) (l := (ln F e1 (nx F e1 a))) (by omega) (fun j h1 h2 => ⟨(ln_in (e := e1) (a := (nx F e1 a)) h1 (by omega)).1, (ln_in (e := e1) (a := (nx F e1 a)) h1 (by omega)).2.1⟩) (by omega)
                refine v_cv rfl rfl rfl rfl (by decide) ⟨⟨rfl, rfl⟩, by decide, rfl⟩ (Nat.le_of_ble_eq_true rfl) (Nat.le_of_ble_eq_true rfl) (f_157 (e1 := e1) (a9 := (nx F e1 a)) (B := H) (r8 := (nx F e1 a)) (L8 := (ln F e1 (nx F e1 a))) (W8 := (wv F (nx F e1 a) (ln F e1 (nx F e1 a)))) hI_867 ((hid kn_870)) ((h_869)) (fun j => ((hF_868 43 j (fun h => absurd h.1 (nn rfl))).trans (hFc 43 j (fun q => q.elim (fun h => absurd h.1 (nn rfl)) (fun q => q.elim (fun h => absurd h.1 (nn rfl)) (fun q => q.elim (fun h => absurd h.1 (nn rfl)) (fun q => q.elim (fun h => absurd h.1 (nn rfl)) (fun q => q.elim (fun h => absurd h.1 (nn rfl)) (fun q => q.elim (fun h => absurd h.1 (nn rfl)) (fun q => q.elim (fun h => absurd h.1 (nn rfl)) (fun q => q.elim (fun h => absurd h (nn rfl)) (fun q => q.elim (fun h => absurd h (nn rfl)) (fun h => absurd h (nn rfl))))))))))))).trans (hH j)) ((nx_tr hU (by omega) (by omega)).trans ((nx_z (by omega)))) ((ln_tr hU (by omega) (by omega)).trans (rfl)) ((wv_tr hU (by omega) (by omega) (fun j h1 h2 => ⟨(ln_in (e := e1) (a := (nx F e1 a)) h1 (by omega)).1, (ln_in (e := e1) (a := (nx F e1 a)) h1 (by omega)).2.1⟩)).trans (rfl)) (fun c_873 hI_874 hF_875 hz_876 => ?_))
                refine bk_inl ?_
                refine q_istore_n rfl (by decide) ?_
                refine q_iload_n rfl rfl ?_
                refine q_call rfl rfl rfl rfl ?_
                refine q_iload_n rfl rfl ?_
                refine q_ldc_s rfl rfl rfl (by decide) ?_
                refine q_call rfl rfl rfl rfl (s_158_16 ?_)
                refine bk_inl ?_
                refine v_ic_eq_f (t := 36) rfl (by decide) (by omega) ?_
                refine q_iload_n rfl rfl ?_
                refine q_ldc_s rfl rfl rfl (by decide) ?_
                refine q_call rfl rfl rfl rfl (s_158_17 ?_)
                refine bk_inl ?_
                refine v_ic_eq_t (t := 36) rfl (by decide) (by omega) ?_
                refine q_iconst rfl ?_
                refine q_goto (t := 41) rfl (by decide) ?_
                refine v_zret rfl rfl (by decide) ?_
                refine bk_inl ?_
                refine v_if_ne_t (t := 82) rfl (by decide) (by decide) ?_
                refine q_iload_n rfl rfl ?_
                refine v_bip rfl (by decide) ?_
                refine v_ic_eq_f (t := 96) rfl (by decide) (by omega) ?_
                refine q_aload_n rfl rfl ?_
                refine q_iload_n rfl rfl ?_
                refine v_cv rfl rfl rfl rfl (by decide) ⟨⟨rfl, rfl⟩, by decide, rfl⟩ (Nat.le_of_ble_eq_true rfl) (Nat.le_of_ble_eq_true rfl) ?_
                refine q_iload_n rfl rfl ?_
                refine q_ldc_s rfl rfl rfl (by decide) ?_
                refine q_call rfl rfl rfl rfl (s_158_16 ?_)
                refine bk_inl ?_
                refine v_ic_ne_t (t := 26) rfl (by decide) (by omega) ?_
                refine q_iload_n rfl rfl ?_
                refine q_ldc_s rfl rfl rfl (by decide) ?_
                refine q_call rfl rfl rfl rfl (s_158_17 ?_)
                refine bk_inl ?_
                refine v_ic_ne_f (t := 51) rfl (by decide) (by omega) ?_
                refine q_aload_n rfl rfl ?_
                have kn_877 : Hid (c_866 41 17 = st) := (hF_868 41 17 (fun h => absurd h.2 (ni rfl))).trans (hr_st)
                have kn_878 : Hid (c_873 41 17 = st) := (hF_875 41 17 (fun h => absurd h.2 (ni rfl))).trans (hid kn_877)
                refine v_gi (z := 17) (v := st) rfl rfl rfl (by decide) rfl rfl (hid kn_878) ?_
                refine q_iconst rfl ?_
                refine v_ic_ne_t (t := 47) rfl (by decide) (by omega) ?_
                refine q_iconst rfl ?_
                refine q_goto (t := 73) rfl (by decide) ?_
                refine v_zret rfl rfl (by decide) ?_
                refine bk_inl ?_
                refine v_if_eq_t (t := 105) rfl (by decide) (by decide) ?_
                refine q_aload_n rfl rfl ?_
                refine v_cv rfl rfl rfl rfl (by decide) ⟨⟨rfl, rfl⟩, by decide, rfl⟩ (Nat.le_of_ble_eq_true rfl) (Nat.le_of_ble_eq_true rfl) ?_
                refine q_aload_n rfl rfl ?_
                have kn_879 : Hid (c_866 41 5 = (-1)) := (hF_868 41 5 (fun h => absurd h.2 (ni rfl))).trans (hc_1)
                have kn_880 : Hid (c_873 41 5 = (-1)) := (hF_875 41 5 (fun h => absurd h.2 (ni rfl))).trans (hid kn_879)
                refine v_gi (z := 5) (v := (-1)) rfl rfl rfl (by decide) rfl rfl (hid kn_880) ?_
                refine q_iconst rfl ?_
                refine v_ic_ne_f (t := 12) rfl (by decide) (by decide) ?_
                refine q_iconst rfl ?_
                refine q_goto (t := 13) rfl (by decide) ?_
                refine v_zret rfl rfl (by decide) ?_
                refine bk_inl ?_
                refine v_if_ne_t (t := 115) rfl (by decide) (by decide) ?_
                refine q_aload_n rfl rfl ?_
                have kn_881 : Hid (c_873 41 3 = e1) := (hF_875 41 3 (fun h => absurd h.2 (ni rfl))).trans (hid kn_870)
                refine v_cv rfl rfl rfl rfl (by decide) ⟨⟨rfl, rfl⟩, by decide, rfl⟩ (Nat.le_of_ble_eq_true rfl) (Nat.le_of_ble_eq_true rfl) (f_159 (e1 := e1) (a9 := (nx F e1 a)) (B := H) (L8 := (ln F e1 (nx F e1 a))) hI_874 ((hid kn_881)) ((hz_876)) (fun j => ((hF_875 43 j (fun h => absurd h.1 (nn rfl))).trans ((hF_868 43 j (fun h => absurd h.1 (nn rfl))).trans (hFc 43 j (fun q => q.elim (fun h => absurd h.1 (nn rfl)) (fun q => q.elim (fun h => absurd h.1 (nn rfl)) (fun q => q.elim (fun h => absurd h.1 (nn rfl)) (fun q => q.elim (fun h => absurd h.1 (nn rfl)) (fun q => q.elim (fun h => absurd h.1 (nn rfl)) (fun q => q.elim (fun h => absurd h.1 (nn rfl)) (fun q => q.elim (fun h => absurd h.1 (nn rfl)) (fun q => q.elim (fun h => absurd h (nn rfl)) (fun q => q.elim (fun h => absurd h (nn rfl)) (fun h => absurd h (nn rfl)))))))))))))).trans (hH j)) ((ln_tr hU (by omega) (by omega)).trans (rfl)) (fun c_882 hI_883 hF_884 hz_885 => ?_))
                refine bk_inl ?_
                refine q_aload_n rfl rfl ?_
                refine q_iload_n rfl rfl ?_
                have hw_886 : (wv F (nx F e1 a) (ln F e1 (nx F e1 a))) = 20594117 := by omega
                rw [hw_886]
                have kn_887 : Hid (c_112 1 1 = e1) := (hF_114 1 1 (fun q => q.elim (fun h => absurd h.2 (ni rfl)) (fun q => q.elim (fun h => absurd h.2 (ni rfl)) (fun h => absurd h.2 (ni rfl))))).trans (hid kn_91)
                have kn_888 : Hid (c_882 41 3 = e1) := (hF_884 41 3 (fun h => absurd h.2 (ni rfl))).trans (hid kn_881)
                have kn_889 : Hid (c_866 41 16 = jr) := (hF_868 41 16 (fun h => absurd h.2 (ni rfl))).trans (hr_jr)
                have kn_890 : Hid (c_873 41 16 = jr) := (hF_875 41 16 (fun h => absurd h.2 (ni rfl))).trans (hid kn_889)
                have kn_891 : Hid (c_882 41 16 = jr) := (hF_884 41 16 (fun h => absurd h.2 (ni rfl))).trans (hid kn_890)
                have kn_892 : Hid (c_882 41 17 = st) := (hF_884 41 17 (fun h => absurd h.2 (ni rfl))).trans (hid kn_878)
                have kn_893 : Hid (c_866 41 18 = si) := (hF_868 41 18 (fun h => absurd h.2 (ni rfl))).trans (hr_si)
                have kn_894 : Hid (c_873 41 18 = si) := (hF_875 41 18 (fun h => absurd h.2 (ni rfl))).trans (hid kn_893)
                have kn_895 : Hid (c_882 41 18 = si) := (hF_884 41 18 (fun h => absurd h.2 (ni rfl))).trans (hid kn_894)
                have kn_896 : Hid (c_27 A 3 = du) := (hF_29 A 3 (fun h => absurd h.1 (np0 hA rfl))).trans (hg_du)
                have kn_897 : Hid (c_87 A 3 = du) := (hF_89 A 3 (fun h => absurd h.1 (np0 hA rfl))).trans (hid kn_896)
                have kn_898 : Hid (c_112 A 3 = du) := (hF_114 A 3 (fun q => q.elim (fun h => absurd h.1 (np0 hA rfl)) (fun q => q.elim (fun h => absurd h.1 (np0 hA rfl)) (fun h => absurd h.1 (np0 hA rfl))))).trans (hid kn_897)
                have kn_899 : Hid (c_866 41 19 = du) := (hF_868 41 19 (fun h => absurd h.2 (ni rfl))).trans (hr_du)
                have kn_900 : Hid (c_873 41 19 = du) := (hF_875 41 19 (fun h => absurd h.2 (ni rfl))).trans (hid kn_899)
                have kn_901 : Hid (c_882 41 19 = du) := (hF_884 41 19 (fun h => absurd h.2 (ni rfl))).trans (hid kn_900)
                have h_902 : c_112 1 4 = 0 := (hz_118)
                have h_903 : c_112 1 2 = (ln F e1 (nx F e1 a)) := (hz_117)
                have h_904 : c_112 1 5 = (-1) := (hz_119)
                have kn_905 : Hid (c_882 41 5 = (-1)) := (hF_884 41 5 (fun h => absurd h.2 (ni rfl))).trans (hid kn_880)
                have h_906 : c_882 41 5 = (-1) := (hid kn_905)
                have h_907 : c_882 41 4 = (ln F e1 (nx F e1 a)) := (hz_885)
                have h_908 := ir_41_6 hI2
                have kn_909 : Hid (c_866 41 6 = c2 41 6) := hF_868 41 6 (fun h => absurd h.2 (ni rfl))
                have kn_910 : Hid (c_873 41 6 = c2 41 6) := (hF_875 41 6 (fun h => absurd h.2 (ni rfl))).trans (hid kn_909)
                have kn_911 : Hid (c_882 41 6 = c2 41 6) := (hF_884 41 6 (fun h => absurd h.2 (ni rfl))).trans (hid kn_910)
                have h_912 : c_882 41 6 = c2 41 6 := (hid kn_911)
                have hA_913 : Ae (4 * jr) (c_112 (A + 1)) (c_882 44) := ae_fr hrl0 (fun j => (hF_114 (A + 1) j (fun q => q.elim (fun h => absurd h.1 (np hA rfl rfl)) (fun q => q.elim (fun h => absurd h.1 (np hA rfl rfl)) (fun h => absurd h.1 (np hA rfl rfl))))).trans ((hF_89 (A + 1) j (fun h => absurd h.1 (np hA rfl rfl))).trans (hF_29 (A + 1) j (fun h => absurd h.1 (np hA rfl rfl))))) (fun j => (hF_884 44 j (fun h => absurd h.1 (nn rfl))).trans ((hF_875 44 j (fun h => absurd h.1 (nn rfl))).trans (hF_868 44 j (fun h => absurd h.1 (nn rfl)))))
                have hA_914 : Ae (3 * st) (c_112 (A + 2)) (c_882 45) := ae_fr hrl1 (fun j => (hF_114 (A + 2) j (fun q => q.elim (fun h => absurd h.1 (np hA rfl rfl)) (fun q => q.elim (fun h => absurd h.1 (np hA rfl rfl)) (fun h => absurd h.1 (np hA rfl rfl))))).trans ((hF_89 (A + 2) j (fun h => absurd h.1 (np hA rfl rfl))).trans (hF_29 (A + 2) j (fun h => absurd h.1 (np hA rfl rfl))))) (fun j => (hF_884 45 j (fun h => absurd h.1 (nn rfl))).trans ((hF_875 45 j (fun h => absurd h.1 (nn rfl))).trans (hF_868 45 j (fun h => absurd h.1 (nn rfl)))))
                have hA_915 : Ae si (c_112 (A + 3)) (c_882 46) := ae_fr hrl2 (fun j => (hF_114 (A + 3) j (fun q => q.elim (fun h => absurd h.1 (np hA rfl rfl)) (fun q => q.elim (fun h => absurd h.1 (np hA rfl rfl)) (fun h => absurd h.1 (np hA rfl rfl))))).trans ((hF_89 (A + 3) j (fun h => absurd h.1 (np hA rfl rfl))).trans (hF_29 (A + 3) j (fun h => absurd h.1 (np hA rfl rfl))))) (fun j => (hF_884 46 j (fun h => absurd h.1 (nn rfl))).trans ((hF_875 46 j (fun h => absurd h.1 (nn rfl))).trans (hF_868 46 j (fun h => absurd h.1 (nn rfl)))))
                refine v_cv rfl rfl rfl rfl (by decide) ⟨⟨rfl, rfl⟩, by decide, rfl⟩ (Nat.le_of_ble_eq_true rfl) (Nat.le_of_ble_eq_true rfl) (L_33a_1 (m := c_112) (e1 := e1) (jr := jr) (st := st) (si := si) (du := du) (F := F) (H := H) hI_883 hI_113 hI_721 hA (by omega) ((hid kn_887)) ((hid kn_888)) ((hid kn_713)) ((hid kn_891)) ((hid kn_708)) ((hid kn_892)) ((hid kn_718)) ((hid kn_895)) ((hid kn_898)) ((hid kn_901)) (fun j => ((hF_114 2 j (fun q => q.elim (fun h => absurd h.1 (nn rfl)) (fun q => q.elim (fun h => absurd h.1 (nn rfl)) (fun h => absurd h.1 (nn rfl))))).trans ((hF_89 2 j (fun h => absurd h.1 (nn rfl))).trans ((hF_29 2 j (fun h => absurd h.1 (nn rfl))).trans (hFm 2 j (fun q => q.elim (fun h => absurd h.1 (nn rfl)) (fun q => q.elim (fun h => absurd h.1 (nn rfl)) (fun q => q.elim (fun h => absurd h.1 (nn rfl)) (fun q => q.elim (fun h => absurd h.1 (pn0 hA rfl)) (fun q => q.elim (fun h => absurd h.1 (pn0 hA rfl)) (fun q => q.elim (fun h => absurd h.1 (pn0 hA rfl)) (fun q => q.elim (fun h => absurd h.1 (pn0 hA rfl)) (fun q => q.elim (fun h => absurd h (pn hA rfl rfl)) (fun q => q.elim (fun h => absurd h (pn hA rfl rfl)) (fun q => q.elim (fun h => absurd h (pn hA rfl rfl)) (fun q => q.elim (fun h => absurd h.1 (pn0 hA rfl)) (fun q => q.elim (fun h => absurd h.1 (pn0 hA rfl)) (fun q => q.elim (fun h => absurd h (pn hA rfl rfl)) (fun h => absurd h.1 (pn hA rfl rfl))))))))))))))))))).trans (hF j)) (fun j => ((hF_884 43 j (fun h => absurd h.1 (nn rfl))).trans ((hF_875 43 j (fun h => absurd h.1 (nn rfl))).trans ((hF_868 43 j (fun h => absurd h.1 (nn rfl))).trans (hFc 43 j (fun q => q.elim (fun h => absurd h.1 (nn rfl)) (fun q => q.elim (fun h => absurd h.1 (nn rfl)) (fun q => q.elim (fun h => absurd h.1 (nn rfl)) (fun q => q.elim (fun h => absurd h.1 (nn rfl)) (fun q => q.elim (fun h => absurd h.1 (nn rfl)) (fun q => q.elim (fun h => absurd h.1 (nn rfl)) (fun q => q.elim (fun h => absurd h.1 (nn rfl)) (fun q => q.elim (fun h => absurd h (nn rfl)) (fun q => q.elim (fun h => absurd h (nn rfl)) (fun h => absurd h (nn rfl))))))))))))))).trans (hH j)) hU (by unfold Rt; omega) (ae_le hA_913 (by omega)) (ae_le hA_914 (by omega)) (ae_le hA_915 (by omega)) hG_723 (fun c_916 hI_917 hF_918 hR_920 h_921 h_922 h_923 h_924 hA_925 hA_926 hA_927 => ?_))
                refine bk_inl ?_
                have h_928 := ir_41_16 hI_917
                have h_929 := ir_41_17 hI_917
                have h_930 := ir_41_18 hI_917
                have h_931 := ir_41_19 hI_917
                refine q_aload_n rfl rfl ?_
                refine v_bip rfl (by decide) ?_
                have kn_932 : Hid (c_720 1 1 = e1) := (hF_722 1 1 (fun q => q.elim (fun h => absurd h.2 (ni rfl)) (fun q => q.elim (fun h => absurd h.2 (ni rfl)) (fun q => q.elim (fun h => absurd h.2 (ni rfl)) (fun q => q.elim (fun h => absurd h.1 (pn0 hA rfl)) (fun q => q.elim (fun h => absurd h.1 (pn0 hA rfl)) (fun q => q.elim (fun h => absurd h.1 (pn0 hA rfl)) (fun q => q.elim (fun h => absurd h.1 (pn0 hA rfl)) (fun q => q.elim (fun h => absurd h (pn hA rfl rfl)) (fun q => q.elim (fun h => absurd h (pn hA rfl rfl)) (fun h => absurd h (pn hA rfl rfl)))))))))))).trans (hid kn_887)
                have kn_933 : Hid (c_916 41 3 = e1) := (hF_918 41 3 (fun q => q.elim (fun h => absurd h.2 (ni rfl)) (fun q => q.elim (fun h => absurd h.2 (ni rfl)) (fun q => q.elim (fun h => absurd h.2 (ni rfl)) (fun q => q.elim (fun h => absurd h.2 (ni rfl)) (fun q => q.elim (fun h => absurd h.2 (ni rfl)) (fun q => q.elim (fun h => absurd h.2 (ni rfl)) (fun q => q.elim (fun h => absurd h.2 (ni rfl)) (fun q => q.elim (fun h => absurd h (nn rfl)) (fun q => q.elim (fun h => absurd h (nn rfl)) (fun h => absurd h (nn rfl)))))))))))).trans (hid kn_888)
                have h_934 := ir_1_2 hI_721
                refine v_cv rfl rfl rfl rfl (by decide) ⟨⟨rfl, rfl⟩, by decide, rfl⟩ (Nat.le_of_ble_eq_true rfl) (Nat.le_of_ble_eq_true rfl) (L_11_9 (m := c_720) (e1 := e1) (a9 := c_720 1 2) (F := F) (H := H) hI_917 hI_721 hI_726 ((hid kn_932)) ((hid kn_933)) (rfl) (fun j => ((hF_722 2 j (fun q => q.elim (fun h => absurd h.1 (nn rfl)) (fun q => q.elim (fun h => absurd h.1 (nn rfl)) (fun q => q.elim (fun h => absurd h.1 (nn rfl)) (fun q => q.elim (fun h => absurd h.1 (pn0 hA rfl)) (fun q => q.elim (fun h => absurd h.1 (pn0 hA rfl)) (fun q => q.elim (fun h => absurd h.1 (pn0 hA rfl)) (fun q => q.elim (fun h => absurd h.1 (pn0 hA rfl)) (fun q => q.elim (fun h => absurd h (pn hA rfl rfl)) (fun q => q.elim (fun h => absurd h (pn hA rfl rfl)) (fun h => absurd h (pn hA rfl rfl)))))))))))).trans ((hF_114 2 j (fun q => q.elim (fun h => absurd h.1 (nn rfl)) (fun q => q.elim (fun h => absurd h.1 (nn rfl)) (fun h => absurd h.1 (nn rfl))))).trans ((hF_89 2 j (fun h => absurd h.1 (nn rfl))).trans ((hF_29 2 j (fun h => absurd h.1 (nn rfl))).trans (hFm 2 j (fun q => q.elim (fun h => absurd h.1 (nn rfl)) (fun q => q.elim (fun h => absurd h.1 (nn rfl)) (fun q => q.elim (fun h => absurd h.1 (nn rfl)) (fun q => q.elim (fun h => absurd h.1 (pn0 hA rfl)) (fun q => q.elim (fun h => absurd h.1 (pn0 hA rfl)) (fun q => q.elim (fun h => absurd h.1 (pn0 hA rfl)) (fun q => q.elim (fun h => absurd h.1 (pn0 hA rfl)) (fun q => q.elim (fun h => absurd h (pn hA rfl rfl)) (fun q => q.elim (fun h => absurd h (pn hA rfl rfl)) (fun q => q.elim (fun h => absurd h (pn hA rfl rfl)) (fun q => q.elim (fun h => absurd h.1 (pn0 hA rfl)) (fun q => q.elim (fun h => absurd h.1 (pn0 hA rfl)) (fun q => q.elim (fun h => absurd h (pn hA rfl rfl)) (fun h => absurd h.1 (pn hA rfl rfl)))))))))))))))))))).trans (hF j)) (fun j => ((hF_918 43 j (fun q => q.elim (fun h => absurd h.1 (nn rfl)) (fun q => q.elim (fun h => absurd h.1 (nn rfl)) (fun q => q.elim (fun h => absurd h.1 (nn rfl)) (fun q => q.elim (fun h => absurd h.1 (nn rfl)) (fun q => q.elim (fun h => absurd h.1 (nn rfl)) (fun q => q.elim (fun h => absurd h.1 (nn rfl)) (fun q => q.elim (fun h => absurd h.1 (nn rfl)) (fun q => q.elim (fun h => absurd h (nn rfl)) (fun q => q.elim (fun h => absurd h (nn rfl)) (fun h => absurd h (nn rfl)))))))))))).trans ((hF_884 43 j (fun h => absurd h.1 (nn rfl))).trans ((hF_875 43 j (fun h => absurd h.1 (nn rfl))).trans ((hF_868 43 j (fun h => absurd h.1 (nn rfl))).trans (hFc 43 j (fun q => q.elim (fun h => absurd h.1 (nn rfl)) (fun q => q.elim (fun h => absurd h.1 (nn rfl)) (fun q => q.elim (fun h => absurd h.1 (nn rfl)) (fun q => q.elim (fun h => absurd h.1 (nn rfl)) (fun q => q.elim (fun h => absurd h.1 (nn rfl)) (fun q => q.elim (fun h => absurd h.1 (nn rfl)) (fun q => q.elim (fun h => absurd h.1 (nn rfl)) (fun q => q.elim (fun h => absurd h (nn rfl)) (fun q => q.elim (fun h => absurd h (nn rfl)) (fun h => absurd h (nn rfl)))))))))))))))).trans (hH j)) hU hR_920 hG_728 (fun c_935 hI_936 hF_937 hR_939 h_940 => ?_))
                refine bk_inl ?_
                refine v_iinc (v := v + 1) rfl rfl (by decide) (by omega) ?_
                refine q_goto (t := 44) rfl (by decide) ?_
                refine q_aload_n rfl rfl ?_
                refine v_cv rfl rfl rfl rfl (by decide) ⟨⟨rfl, rfl⟩, by decide, rfl⟩ (Nat.le_of_ble_eq_true rfl) (Nat.le_of_ble_eq_true rfl) ?_
                refine q_aload_n rfl rfl ?_
                have h_941 := ir_41_5 hI_936
                have h_942 := ir_41_4 hI_936
                have h_943 := ir_41_6 hI_936
                have h_944 := rt_bad hR_939 (by omega)
                have hrb_hR_939 := rt_bad hR_939 (by omega)
                refine v_gi (z := 5) (v := c_725 1 5) rfl rfl rfl (by decide) rfl rfl hrb_hR_939.2.1 ?_
                refine q_iconst rfl ?_
                refine v_ic_ne_t (t := 12) rfl (by decide) (by omega) ?_
                refine q_iconst rfl ?_
                refine v_zret rfl rfl (by decide) ?_
                refine bk_inl ?_
                refine v_if_eq_t (t := 136) rfl (by decide) (by decide) ?_
                refine Wp_ls [(0, .ref 41), (1, vi a1)] (lsub_cons rfl (lsub_cons rfl lsub_nil)) ?_
                have h_945 : c_935 41 5 = c_725 1 5 := hrb_hR_939.2.1
                have h_946 : c_935 41 6 = c_725 1 4 := hrb_hR_939.2.2.2
                have kn_947 : Hid (c_935 41 16 = c_916 41 16) := hF_937 41 16 (fun q => q.elim (fun h => absurd h.2 (ni rfl)) (fun q => q.elim (fun h => absurd h.2 (ni rfl)) (fun h => absurd h.2 (ni rfl))))
                have h_948 : c_935 41 16 = c_916 41 16 := (hid kn_947)
                have kn_949 : Hid (c_935 41 17 = c_916 41 17) := hF_937 41 17 (fun q => q.elim (fun h => absurd h.2 (ni rfl)) (fun q => q.elim (fun h => absurd h.2 (ni rfl)) (fun h => absurd h.2 (ni rfl))))
                have h_950 : c_935 41 17 = c_916 41 17 := (hid kn_949)
                have kn_951 : Hid (c_935 41 18 = c_916 41 18) := hF_937 41 18 (fun q => q.elim (fun h => absurd h.2 (ni rfl)) (fun q => q.elim (fun h => absurd h.2 (ni rfl)) (fun h => absurd h.2 (ni rfl))))
                have h_952 : c_935 41 18 = c_916 41 18 := (hid kn_951)
                have kn_953 : Hid (c_935 41 19 = c_916 41 19) := hF_937 41 19 (fun q => q.elim (fun h => absurd h.2 (ni rfl)) (fun q => q.elim (fun h => absurd h.2 (ni rfl)) (fun h => absurd h.2 (ni rfl))))
                have h_954 : c_935 41 19 = c_916 41 19 := (hid kn_953)
                have h_955 : c_935 41 16 = c_916 41 16 := (hid kn_947)
                have h_956 : c_935 41 17 = c_916 41 17 := (hid kn_949)
                have h_957 : c_935 41 18 = c_916 41 18 := (hid kn_951)
                exact K c_935  hI_936 (fun a j hm => (hF_937 a j (fun q => q.elim (fun h => hm (Or.inl h)) (fun q => q.elim (fun h => hm (Or.inr (Or.inl h))) (fun h => hm (Or.inr (Or.inr (Or.inl h))))))).trans ((hF_918 a j (fun q => q.elim (fun h => hm (Or.inl h)) (fun q => q.elim (fun h => hm (Or.inr (Or.inl h))) (fun q => q.elim (fun h => hm (Or.inr (Or.inr (Or.inl h)))) (fun q => q.elim (fun h => hm (Or.inr (Or.inr (Or.inr (Or.inl h))))) (fun q => q.elim (fun h => hm (Or.inr (Or.inr (Or.inr (Or.inr (Or.inl h)))))) (fun q => q.elim (fun h => hm (Or.inr (Or.inr (Or.inr (Or.inr (Or.inr (Or.inl h))))))) (fun q => q.elim (fun h => hm (Or.inr (Or.inr (Or.inr (Or.inr (Or.inr (Or.inr (Or.inl h)))))))) (fun q => q.elim (fun h => hm (Or.inr (Or.inr (Or.inr (Or.inr (Or.inr (Or.inr (Or.inr (Or.inl h))))))))) (fun q => q.elim (fun h => hm (Or.inr (Or.inr (Or.inr (Or.inr (Or.inr (Or.inr (Or.inr (Or.inr (Or.inl h)))))))))) (fun h => hm (Or.inr (Or.inr (Or.inr (Or.inr (Or.inr (Or.inr (Or.inr (Or.inr (Or.inr h)))))))))))))))))))).trans ((hF_884 a j (fun h => hm (Or.inl h))).trans ((hF_875 a j (fun h => hm (Or.inl h))).trans ((hF_868 a j (fun h => hm (Or.inl h))).trans (hFc a j (fun q => q.elim (fun h => hm (Or.inl h)) (fun q => q.elim (fun h => hm (Or.inr (Or.inl h))) (fun q => q.elim (fun h => hm (Or.inr (Or.inr (Or.inl h)))) (fun q => q.elim (fun h => hm (Or.inr (Or.inr (Or.inr (Or.inl h))))) (fun q => q.elim (fun h => hm (Or.inr (Or.inr (Or.inr (Or.inr (Or.inl h)))))) (fun q => q.elim (fun h => hm (Or.inr (Or.inr (Or.inr (Or.inr (Or.inr (Or.inl h))))))) (fun q => q.elim (fun h => hm (Or.inr (Or.inr (Or.inr (Or.inr (Or.inr (Or.inr (Or.inl h)))))))) (fun q => q.elim (fun h => hm (Or.inr (Or.inr (Or.inr (Or.inr (Or.inr (Or.inr (Or.inr (Or.inl h))))))))) (fun q => q.elim (fun h => hm (Or.inr (Or.inr (Or.inr (Or.inr (Or.inr (Or.inr (Or.inr (Or.inr (Or.inl h)))))))))) (fun h => hm (Or.inr (Or.inr (Or.inr (Or.inr (Or.inr (Or.inr (Or.inr (Or.inr (Or.inr h))))))))))))))))))))))))) (by unfold Rt; omega) (by omega) (fun hz => absurd hz (by omega)) (fun hz => absurd hz (by omega)) (fun hz => absurd hz (by omega))
            · refine v_ic_ne_f (t := 55) rfl (by decide) (by omega) ?_
              refine q_iconst rfl ?_
              refine q_goto (t := 56) rfl (by decide) ?_
              refine v_zret rfl rfl (by decide) ?_
              refine bk_inl ?_
              refine v_if_eq_f (t := 59) rfl (by decide) (by decide) ?_
              refine q_aload_n rfl rfl ?_
              refine q_iconst rfl ?_
              refine q_iload_n rfl rfl ?_
              refine v_cv rfl rfl rfl rfl (by decide) ⟨⟨rfl, rfl⟩, by decide, rfl⟩ (Nat.le_of_ble_eq_true rfl) (Nat.le_of_ble_eq_true rfl) ?_
              refine q_aload_n rfl rfl ?_
              refine v_gi (z := 4) (v := 0) rfl rfl rfl (by decide) rfl rfl (hz_118) ?_
              refine v_if_ne_f (t := 17) rfl (by decide) (by decide) ?_
              refine q_aload_n rfl rfl ?_
              refine q_iload_n rfl rfl ?_
              refine v_pi (z := 4) rfl rfl rfl (by decide) rfl rfl rfl (by decide) ?_
              refine q_aload_n rfl rfl ?_
              refine q_iload_n rfl rfl ?_
              refine v_pi (z := 5) rfl rfl rfl (by decide) rfl rfl rfl (by decide) ?_
              refine q_vret rfl rfl ?_
              refine bk_inl ?_
              refine q_aload_n rfl rfl ?_
              refine v_cv rfl rfl rfl rfl (by decide) ⟨⟨rfl, rfl⟩, by decide, rfl⟩ (Nat.le_of_ble_eq_true rfl) (Nat.le_of_ble_eq_true rfl) ?_
              refine q_aload_n rfl rfl ?_
              refine v_gi (z := 4) (v := 3) rfl rfl rfl (by decide) rfl rfl ((up_n (by decide)).trans (up_e rfl)) ?_
              refine v_if_ne_t (t := 11) rfl (by decide) (by decide) ?_
              refine q_iconst rfl ?_
              refine v_zret rfl rfl (by decide) ?_
              refine bk_inl ?_
              refine v_if_eq_t (t := 73) rfl (by decide) (by decide) ?_
              refine q_aload_n rfl rfl ?_
              refine q_ldc_s rfl rfl rfl (by decide) ?_
              refine v_cv rfl rfl rfl rfl (by decide) ⟨⟨rfl, rfl⟩, by decide, rfl⟩ (Nat.le_of_ble_eq_true rfl) (Nat.le_of_ble_eq_true rfl) ?_
              refine q_aload_n rfl rfl ?_
              refine v_cv rfl rfl rfl rfl (by decide) ⟨⟨rfl, rfl⟩, by decide, rfl⟩ (Nat.le_of_ble_eq_true rfl) (Nat.le_of_ble_eq_true rfl) ?_
              refine q_aload_n rfl rfl ?_
              refine v_gi (z := 4) (v := 3) rfl rfl rfl (by decide) rfl rfl ((up_n (by decide)).trans (up_e rfl)) ?_
              refine v_if_ne_t (t := 11) rfl (by decide) (by decide) ?_
              refine q_iconst rfl ?_
              refine v_zret rfl rfl (by decide) ?_
              refine bk_inl ?_
              refine v_if_eq_t (t := 25) rfl (by decide) (by decide) ?_
              refine q_vret rfl rfl ?_
              refine bk_inl ?_
              refine v_iinc (v := v + 1) rfl rfl (by decide) (by omega) ?_
              refine q_goto (t := 6) rfl (by decide) ?_
              refine q_iload_n rfl rfl ?_
              refine v_bip rfl (by decide) ?_
              refine v_ic_gt_f (t := 85) rfl (by decide) (by omega) ?_
              refine q_aload_n rfl rfl ?_
              refine v_cv rfl rfl rfl rfl (by decide) ⟨⟨rfl, rfl⟩, by decide, rfl⟩ (Nat.le_of_ble_eq_true rfl) (Nat.le_of_ble_eq_true rfl) ?_
              refine q_aload_n rfl rfl ?_
              refine v_cv rfl rfl rfl rfl (by decide) ⟨⟨rfl, rfl⟩, by decide, rfl⟩ (Nat.le_of_ble_eq_true rfl) (Nat.le_of_ble_eq_true rfl) ?_
              refine q_aload_n rfl rfl ?_
              refine v_gi (z := 4) (v := 3) rfl rfl rfl (by decide) rfl rfl ((up_n (by decide)).trans (up_e rfl)) ?_
              refine v_if_ne_t (t := 11) rfl (by decide) (by decide) ?_
              refine q_iconst rfl ?_
              refine v_zret rfl rfl (by decide) ?_
              refine bk_inl ?_
              refine v_if_eq_t (t := 22) rfl (by decide) (by decide) ?_
              refine q_iconst rfl ?_
              refine v_zret rfl rfl (by decide) ?_
              refine bk_inl ?_
              refine v_if_eq_t (t := 85) rfl (by decide) (by decide) ?_
              refine q_vret rfl rfl ?_
              have hI_958 := iw_1_4 (v := 3) hI_113 ⟨by decide, by decide⟩
              have hI_959 := iw_1_5 (v := (nx F e1 a)) hI_958 ⟨by omega, by omega⟩
              intro hE_960
              have hW : Wd P Q P P (up (up c_112 1 4 3) 1 5 (nx F e1 a)) = Wd P Q P P m9 := (Prod.mk.inj (Prod.mk.inj hE_960).2).1
              have h_961 := ir_1_4 hJ9
              have h_962 : m9 1 4 = 3 := wd_fv (z := 4) 4 rfl hW rfl rfl rfl rfl (by decide) ((up_n (by decide)).trans (up_e rfl)) ⟨by omega, by omega⟩ ⟨by omega, by omega⟩
              have h_963 := ir_1_2 hJ9
              have h_964 : m9 1 2 = (ln F e1 (nx F e1 a)) := wd_fv (z := 2) 2 rfl hW rfl rfl rfl rfl (by decide) ((up_n (by decide)).trans ((up_n (by decide)).trans (hz_117))) ⟨by omega, by omega⟩ ⟨by omega, by omega⟩
              have h_965 := ir_1_5 hJ9
              have h_966 : m9 1 5 = (nx F e1 a) := wd_fv (z := 5) 5 rfl hW rfl rfl rfl rfl (by decide) (up_e rfl) ⟨by omega, by omega⟩ ⟨by omega, by omega⟩
              have kn_967 : Hid (c_27 A 0 = jr) := (hF_29 A 0 (fun h => absurd h.1 (np0 hA rfl))).trans (hg_jr)
              have kn_968 : Hid (c_87 A 0 = jr) := (hF_89 A 0 (fun h => absurd h.1 (np0 hA rfl))).trans (hid kn_967)
              have kn_969 : Hid (c_112 A 0 = jr) := (hF_114 A 0 (fun q => q.elim (fun h => absurd h.1 (np0 hA rfl)) (fun q => q.elim (fun h => absurd h.1 (np0 hA rfl)) (fun h => absurd h.1 (np0 hA rfl))))).trans (hid kn_968)
              have h_970 := ir_p0_0 hJ9 hA
              have h_971 : m9 A 0 = jr := wd_fv (z := 0) 0 rfl hW (ck_p0 hA) (ck_p0 hA) rfl rfl (by omega) ((up_c (np0 hA rfl)).trans ((up_c (np0 hA rfl)).trans (hid kn_969))) ⟨by omega, by omega⟩ ⟨by omega, by omega⟩
              have h_972 := ir_p0_1 hJ9 hA
              have h_973 : m9 A 1 = st := wd_fv (z := 1) 1 rfl hW (ck_p0 hA) (ck_p0 hA) rfl rfl (by omega) ((up_c (np0 hA rfl)).trans ((up_c (np0 hA rfl)).trans (hid kn_708))) ⟨by omega, by omega⟩ ⟨by omega, by omega⟩
              have kn_974 : Hid (c_27 A 2 = si) := (hF_29 A 2 (fun h => absurd h.1 (np0 hA rfl))).trans (hg_si)
              have kn_975 : Hid (c_87 A 2 = si) := (hF_89 A 2 (fun h => absurd h.1 (np0 hA rfl))).trans (hid kn_974)
              have kn_976 : Hid (c_112 A 2 = si) := (hF_114 A 2 (fun q => q.elim (fun h => absurd h.1 (np0 hA rfl)) (fun q => q.elim (fun h => absurd h.1 (np0 hA rfl)) (fun h => absurd h.1 (np0 hA rfl))))).trans (hid kn_975)
              have h_977 := ir_p0_2 hJ9 hA
              have h_978 : m9 A 2 = si := wd_fv (z := 2) 2 rfl hW (ck_p0 hA) (ck_p0 hA) rfl rfl (by omega) ((up_c (np0 hA rfl)).trans ((up_c (np0 hA rfl)).trans (hid kn_976))) ⟨by omega, by omega⟩ ⟨by omega, by omega⟩
              have kn_979 : Hid (c_27 A 3 = du) := (hF_29 A 3 (fun h => absurd h.1 (np0 hA rfl))).trans (hg_du)
              have kn_980 : Hid (c_87 A 3 = du) := (hF_89 A 3 (fun h => absurd h.1 (np0 hA rfl))).trans (hid kn_979)
              have kn_981 : Hid (c_112 A 3 = du) := (hF_114 A 3 (fun q => q.elim (fun h => absurd h.1 (np0 hA rfl)) (fun q => q.elim (fun h => absurd h.1 (np0 hA rfl)) (fun h => absurd h.1 (np0 hA rfl))))).trans (hid kn_980)
              have h_982 := ir_p0_3 hJ9 hA
              have h_983 : m9 A 3 = du := wd_fv (z := 3) 3 rfl hW (ck_p0 hA) (ck_p0 hA) rfl rfl (by omega) ((up_c (np0 hA rfl)).trans ((up_c (np0 hA rfl)).trans (hid kn_981))) ⟨by omega, by omega⟩ ⟨by omega, by omega⟩
              refine q_aload_n rfl rfl ?_
              refine v_cv rfl rfl rfl rfl (by decide) ⟨⟨rfl, rfl⟩, by decide, rfl⟩ (Nat.le_of_ble_eq_true rfl) (Nat.le_of_ble_eq_true rfl) ?_
              refine q_aload_n rfl rfl ?_
              refine v_gi (z := 5) (v := (-1)) rfl rfl rfl (by decide) rfl rfl (hc_1) ?_
              refine q_iconst rfl ?_
              refine v_ic_ne_f (t := 12) rfl (by decide) (by decide) ?_
              refine q_iconst rfl ?_
              refine q_goto (t := 13) rfl (by decide) ?_
              refine v_zret rfl rfl (by decide) ?_
              refine bk_inl ?_
              refine v_if_eq_f (t := 136) rfl (by decide) (by decide) ?_
              refine q_aload_n rfl rfl ?_
              refine v_cv rfl rfl rfl rfl (by decide) ⟨⟨rfl, rfl⟩, by decide, rfl⟩ (Nat.le_of_ble_eq_true rfl) (Nat.le_of_ble_eq_true rfl) ?_
              refine q_aload_n rfl rfl ?_
              have kn_984 : Hid (c2 41 3 = e1) := (hFc 41 3 (fun q => q.elim (fun h => absurd h.2 (ni rfl)) (fun q => q.elim (fun h => absurd h.2 (ni rfl)) (fun q => q.elim (fun h => absurd h.2 (ni rfl)) (fun q => q.elim (fun h => absurd h.2 (ni rfl)) (fun q => q.elim (fun h => absurd h.2 (ni rfl)) (fun q => q.elim (fun h => absurd h.2 (ni rfl)) (fun q => q.elim (fun h => absurd h.2 (ni rfl)) (fun q => q.elim (fun h => absurd h (nn rfl)) (fun q => q.elim (fun h => absurd h (nn rfl)) (fun h => absurd h (nn rfl)))))))))))).trans (hr_e1)
              have h_985 : -2147483648 ≤ (H (nx F e1 a)) ∧ (H (nx F e1 a)) ≤ 2147483647 := by rw [← hH (nx F e1 a)]; exact ir_43 hI (nx F e1 a)
              have h_986 := hU (nx F e1 a) (by omega) (by omega)
              have h_987 := hb_or (b := H) (e := e1) (r := (nx F e1 a))
              have h_988 := hb_bd (b := H) (e := e1) (r := (nx F e1 a)) (lo := -2147483648) (hi := 2147483647) ⟨by omega, by omega⟩ (by decide)
              refine v_cv rfl rfl rfl rfl (by decide) ⟨⟨rfl, rfl⟩, by decide, rfl⟩ (Nat.le_of_ble_eq_true rfl) (Nat.le_of_ble_eq_true rfl) (f_154 (e1 := e1) (a9 := a) (B := H) (r8 := (nx F e1 a)) (r := (hb H e1 (nx F e1 a))) hI2 ((hid kn_984)) ((hr_a)) (fun j => (hFc 43 j (fun q => q.elim (fun h => absurd h.1 (nn rfl)) (fun q => q.elim (fun h => absurd h.1 (nn rfl)) (fun q => q.elim (fun h => absurd h.1 (nn rfl)) (fun q => q.elim (fun h => absurd h.1 (nn rfl)) (fun q => q.elim (fun h => absurd h.1 (nn rfl)) (fun q => q.elim (fun h => absurd h.1 (nn rfl)) (fun q => q.elim (fun h => absurd h.1 (nn rfl)) (fun q => q.elim (fun h => absurd h (nn rfl)) (fun q => q.elim (fun h => absurd h (nn rfl)) (fun h => absurd h (nn rfl)))))))))))).trans (hH j)) ((nx_tr hU (by omega) (by omega)).trans (rfl)) rfl (fun c_989 hI_990 hF_991 h_992 => ?_))
              refine bk_inl ?_
              refine q_pop rfl rfl ?_
              refine q_aload_n rfl rfl ?_
              refine v_gi (z := 4) (v := (nx F e1 a)) rfl rfl rfl (by decide) rfl rfl (h_992) ?_
              refine q_aload_n rfl rfl ?_
              have kn_993 : Hid (c_989 41 3 = e1) := (hF_991 41 3 (fun h => absurd h.2 (ni rfl))).trans (hid kn_984)
              refine v_gi (z := 3) (v := e1) rfl rfl rfl (by decide) rfl rfl (hid kn_993) ?_
              refine v_ic_ge_f (t := 20) rfl (by decide) (by omega) ?_
              refine q_iconst rfl ?_
              refine q_goto (t := 21) rfl (by decide) ?_
              refine v_zret rfl rfl (by decide) ?_
              refine bk_inl ?_
              refine v_if_eq_f (t := 136) rfl (by decide) (by decide) ?_
              refine q_aload_n rfl rfl ?_
              have h_994 := wv_bd (b := F) (r := (nx F e1 a)) (l := (ln F e1 (nx F e1 a))) (fun j h1 h2 => ⟨(ln_in (e := e1) (a := (nx F e1 a)) h1 (by omega)).1, (ln_in (e := e1) (a := (nx F e1 a)) h1 (by omega)).2.1⟩)
              have h_995 := wr8_1 (b := F) (r := (nx F e1 a)) (l := (ln F e1 (nx F e1 a))) (by omega) (fun j h1 h2 => ⟨(ln_in (e := e1) (a := (nx F e1 a)) h1 (by omega)).1, (ln_in (e := e1) (a := (nx F e1 a)) h1 (by omega)).2.1⟩) (by omega)
              refine v_cv rfl rfl rfl rfl (by decide) ⟨⟨rfl, rfl⟩, by decide, rfl⟩ (Nat.le_of_ble_eq_true rfl) (Nat.le_of_ble_eq_true rfl) (f_157 (e1 := e1) (a9 := (nx F e1 a)) (B := H) (r8 := (nx F e1 a)) (L8 := (ln F e1 (nx F e1 a))) (W8 := (wv F (nx F e1 a) (ln F e1 (nx F e1 a)))) hI_990 ((hid kn_993)) ((h_992)) (fun j => ((hF_991 43 j (fun h => absurd h.1 (nn rfl))).trans (hFc 43 j (fun q => q.elim (fun h => absurd h.1 (nn rfl)) (fun q => q.elim (fun h => absurd h.1 (nn rfl)) (fun q => q.elim (fun h => absurd h.1 (nn rfl)) (fun q => q.elim (fun h => absurd h.1 (nn rfl)) (fun q => q.elim (fun h => absurd h.1 (nn rfl)) (fun q => q.elim (fun h => absurd h.1 (nn rfl)) (fun q => q.elim (fun h => absurd h.1 (nn rfl)) (fun q => q.elim (fun h => absurd h (nn rfl)) (fun q => q.elim (fun h => absurd h (nn rfl)) (fun h => absurd h (nn rfl))))))))))))).trans (hH j)) ((nx_tr hU (by omega) (by omega)).trans ((nx_z (by omega)))) ((ln_tr hU (by omega) (by omega)).trans (rfl)) ((wv_tr hU (by omega) (by omega) (fun j h1 h2 => ⟨(ln_in (e := e1) (a := (nx F e1 a)) h1 (by omega)).1, (ln_in (e := e1) (a := (nx F e1 a)) h1 (by omega)).2.1⟩)).trans (rfl)) (fun c_996 hI_997 hF_998 hz_999 => ?_))
              refine bk_inl ?_
              refine q_istore_n rfl (by decide) ?_
              refine q_iload_n rfl rfl ?_
              refine q_call rfl rfl rfl rfl ?_
              refine q_iload_n rfl rfl ?_
              refine q_ldc_s rfl rfl rfl (by decide) ?_
              refine q_call rfl rfl rfl rfl (s_158_16 ?_)
              refine bk_inl ?_
              refine v_ic_eq_f (t := 36) rfl (by decide) (by omega) ?_
              refine q_iload_n rfl rfl ?_
              refine q_ldc_s rfl rfl rfl (by decide) ?_
              refine q_call rfl rfl rfl rfl (s_158_17 ?_)
              refine bk_inl ?_
              refine v_ic_eq_t (t := 36) rfl (by decide) (by omega) ?_
              refine q_iconst rfl ?_
              refine q_goto (t := 41) rfl (by decide) ?_
              refine v_zret rfl rfl (by decide) ?_
              refine bk_inl ?_
              refine v_if_ne_t (t := 82) rfl (by decide) (by decide) ?_
              refine q_iload_n rfl rfl ?_
              refine v_bip rfl (by decide) ?_
              refine v_ic_eq_f (t := 96) rfl (by decide) (by omega) ?_
              refine q_aload_n rfl rfl ?_
              refine q_iload_n rfl rfl ?_
              refine v_cv rfl rfl rfl rfl (by decide) ⟨⟨rfl, rfl⟩, by decide, rfl⟩ (Nat.le_of_ble_eq_true rfl) (Nat.le_of_ble_eq_true rfl) ?_
              refine q_iload_n rfl rfl ?_
              refine q_ldc_s rfl rfl rfl (by decide) ?_
              refine q_call rfl rfl rfl rfl (s_158_16 ?_)
              refine bk_inl ?_
              refine v_ic_ne_t (t := 26) rfl (by decide) (by omega) ?_
              refine q_iload_n rfl rfl ?_
              refine q_ldc_s rfl rfl rfl (by decide) ?_
              refine q_call rfl rfl rfl rfl (s_158_17 ?_)
              refine bk_inl ?_
              refine v_ic_ne_f (t := 51) rfl (by decide) (by omega) ?_
              refine q_aload_n rfl rfl ?_
              have kn_1000 : Hid (c_989 41 17 = st) := (hF_991 41 17 (fun h => absurd h.2 (ni rfl))).trans (hr_st)
              have kn_1001 : Hid (c_996 41 17 = st) := (hF_998 41 17 (fun h => absurd h.2 (ni rfl))).trans (hid kn_1000)
              refine v_gi (z := 17) (v := st) rfl rfl rfl (by decide) rfl rfl (hid kn_1001) ?_
              refine q_iconst rfl ?_
              refine v_ic_ne_f (t := 47) rfl (by decide) (by omega) ?_
              refine q_iconst rfl ?_
              refine q_goto (t := 73) rfl (by decide) ?_
              refine v_zret rfl rfl (by decide) ?_
              refine bk_inl ?_
              refine v_if_eq_f (t := 105) rfl (by decide) (by decide) ?_
              refine q_aload_n rfl rfl ?_
              refine q_iconst rfl ?_
              refine q_aload_n rfl rfl ?_
              refine v_gi (z := 4) (v := (nx F e1 a)) rfl rfl rfl (by decide) rfl rfl (hz_999) ?_
              refine v_cv rfl rfl rfl rfl (by decide) ⟨⟨rfl, rfl⟩, by decide, rfl⟩ (Nat.le_of_ble_eq_true rfl) (Nat.le_of_ble_eq_true rfl) ?_
              refine q_aload_n rfl rfl ?_
              have kn_1002 : Hid (c_989 41 5 = (-1)) := (hF_991 41 5 (fun h => absurd h.2 (ni rfl))).trans (hc_1)
              have kn_1003 : Hid (c_996 41 5 = (-1)) := (hF_998 41 5 (fun h => absurd h.2 (ni rfl))).trans (hid kn_1002)
              refine v_gi (z := 5) (v := (-1)) rfl rfl rfl (by decide) rfl rfl (hid kn_1003) ?_
              refine q_iconst rfl ?_
              refine v_ic_eq_t (t := 9) rfl (by decide) (by decide) ?_
              refine q_aload_n rfl rfl ?_
              refine q_iload_n rfl rfl ?_
              refine v_pi (z := 5) rfl rfl rfl (by decide) rfl rfl rfl (by decide) ?_
              refine q_aload_n rfl rfl ?_
              refine q_iload_n rfl rfl ?_
              refine v_pi (z := 6) rfl rfl rfl (by decide) rfl rfl rfl (by decide) ?_
              refine q_vret rfl rfl ?_
              refine bk_inl ?_
              refine q_aload_n rfl rfl ?_
              refine v_cv rfl rfl rfl rfl (by decide) ⟨⟨rfl, rfl⟩, by decide, rfl⟩ (Nat.le_of_ble_eq_true rfl) (Nat.le_of_ble_eq_true rfl) ?_
              refine q_aload_n rfl rfl ?_
              refine v_gi (z := 5) (v := (nx F e1 a)) rfl rfl rfl (by decide) rfl rfl ((up_n (by decide)).trans (up_e rfl)) ?_
              refine q_iconst rfl ?_
              refine v_ic_ne_t (t := 12) rfl (by decide) (by omega) ?_
              refine q_iconst rfl ?_
              refine v_zret rfl rfl (by decide) ?_
              refine bk_inl ?_
              refine v_if_ne_f (t := 115) rfl (by decide) (by decide) ?_
              refine q_goto (t := 136) rfl (by decide) ?_
              refine Wp_ls [(0, .ref 41), (1, vi a1)] (lsub_cons rfl (lsub_cons rfl lsub_nil)) ?_
              have hI_1004 := iw_41_5 (v := (nx F e1 a)) hI_997 ⟨by omega, by omega⟩
              have hI_1005 := iw_41_6 (v := 3) hI_1004 ⟨by decide, by decide⟩
              have h_1006 : (up (up c_996 41 5 (nx F e1 a)) 41 6 3) 41 5 = (nx F e1 a) := ((up_n (by decide)).trans (up_e rfl))
              have h_1007 : (up (up c_996 41 5 (nx F e1 a)) 41 6 3) 41 4 = (nx F e1 a) := ((up_n (by decide)).trans ((up_n (by decide)).trans (hz_999)))
              have h_1008 : (up (up c_996 41 5 (nx F e1 a)) 41 6 3) 41 6 = 3 := (up_e rfl)
              have kn_1009 : Hid (c_989 41 16 = jr) := (hF_991 41 16 (fun h => absurd h.2 (ni rfl))).trans (hr_jr)
              have kn_1010 : Hid (c_996 41 16 = jr) := (hF_998 41 16 (fun h => absurd h.2 (ni rfl))).trans (hid kn_1009)
              have h_1011 : (up (up c_996 41 5 (nx F e1 a)) 41 6 3) 41 16 = jr := ((up_n (by decide)).trans ((up_n (by decide)).trans (hid kn_1010)))
              have h_1012 : (up (up c_996 41 5 (nx F e1 a)) 41 6 3) 41 17 = st := ((up_n (by decide)).trans ((up_n (by decide)).trans (hid kn_1001)))
              have kn_1013 : Hid (c_989 41 18 = si) := (hF_991 41 18 (fun h => absurd h.2 (ni rfl))).trans (hr_si)
              have kn_1014 : Hid (c_996 41 18 = si) := (hF_998 41 18 (fun h => absurd h.2 (ni rfl))).trans (hid kn_1013)
              have h_1015 : (up (up c_996 41 5 (nx F e1 a)) 41 6 3) 41 18 = si := ((up_n (by decide)).trans ((up_n (by decide)).trans (hid kn_1014)))
              have kn_1016 : Hid (c_989 41 19 = du) := (hF_991 41 19 (fun h => absurd h.2 (ni rfl))).trans (hr_du)
              have kn_1017 : Hid (c_996 41 19 = du) := (hF_998 41 19 (fun h => absurd h.2 (ni rfl))).trans (hid kn_1016)
              have h_1018 : (up (up c_996 41 5 (nx F e1 a)) 41 6 3) 41 19 = du := ((up_n (by decide)).trans ((up_n (by decide)).trans (hid kn_1017)))
              have h_1019 : (up (up c_996 41 5 (nx F e1 a)) 41 6 3) 41 16 = jr := ((up_n (by decide)).trans ((up_n (by decide)).trans (hid kn_1010)))
              have h_1020 : (up (up c_996 41 5 (nx F e1 a)) 41 6 3) 41 17 = st := ((up_n (by decide)).trans ((up_n (by decide)).trans (hid kn_1001)))
              have h_1021 : (up (up c_996 41 5 (nx F e1 a)) 41 6 3) 41 18 = si := ((up_n (by decide)).trans ((up_n (by decide)).trans (hid kn_1014)))
              exact K (up (up c_996 41 5 (nx F e1 a)) 41 6 3)  hI_1005 (fun a j hm => (up_b (Decidable.or_iff_not_imp_left.mpr (fun h1 h2 => hm (Or.inr (Or.inr (Or.inl ⟨Decidable.not_not.mp h1, h2⟩)))))).trans ((up_b (Decidable.or_iff_not_imp_left.mpr (fun h1 h2 => hm (Or.inr (Or.inl ⟨Decidable.not_not.mp h1, h2⟩))))).trans ((hF_998 a j (fun h => hm (Or.inl h))).trans ((hF_991 a j (fun h => hm (Or.inl h))).trans (hFc a j (fun q => q.elim (fun h => hm (Or.inl h)) (fun q => q.elim (fun h => hm (Or.inr (Or.inl h))) (fun q => q.elim (fun h => hm (Or.inr (Or.inr (Or.inl h)))) (fun q => q.elim (fun h => hm (Or.inr (Or.inr (Or.inr (Or.inl h))))) (fun q => q.elim (fun h => hm (Or.inr (Or.inr (Or.inr (Or.inr (Or.inl h)))))) (fun q => q.elim (fun h => hm (Or.inr (Or.inr (Or.inr (Or.inr (Or.inr (Or.inl h))))))) (fun q => q.elim (fun h => hm (Or.inr (Or.inr (Or.inr (Or.inr (Or.inr (Or.inr (Or.inl h)))))))) (fun q => q.elim (fun h => hm (Or.inr (Or.inr (Or.inr (Or.inr (Or.inr (Or.inr (Or.inr (Or.inl h))))))))) (fun q => q.elim (fun h => hm (Or.inr (Or.inr (Or.inr (Or.inr (Or.inr (Or.inr (Or.inr (Or.inr (Or.inl h)))))))))) (fun h => hm (Or.inr (Or.inr (Or.inr (Or.inr (Or.inr (Or.inr (Or.inr (Or.inr (Or.inr h)))))))))))))))))))))))) (by unfold Rt; omega) (by omega) (fun hz => absurd hz (by omega)) (fun hz => absurd hz (by omega)) (fun hz => absurd hz (by omega))
          by_cases h_1022 : (wd8_0 F (nx F e1 a) (ln F e1 (nx F e1 a))) = 2
          · skip
            refine v_tsw_i (t := 57) 2 rfl (by omega) (by decide) rfl (by decide) ?_
            refine q_aload_n rfl rfl ?_
            have kn_1023 : Hid (c_27 A 2 = si) := (hF_29 A 2 (fun h => absurd h.1 (np0 hA rfl))).trans (hg_si)
            have kn_1024 : Hid (c_87 A 2 = si) := (hF_89 A 2 (fun h => absurd h.1 (np0 hA rfl))).trans (hid kn_1023)
            have kn_1025 : Hid (c_112 A 2 = si) := (hF_114 A 2 (fun q => q.elim (fun h => absurd h.1 (np0 hA rfl)) (fun q => q.elim (fun h => absurd h.1 (np0 hA rfl)) (fun h => absurd h.1 (np0 hA rfl))))).trans (hid kn_1024)
            refine v_gi (z := 2) (v := si) rfl rfl (ck_p0 hA) (by omega) rfl rfl (hid kn_1025) ?_
            refine q_iconst rfl ?_
            by_cases h_1026 : si ≠ 4
            · refine v_ic_ne_t (t := 69) rfl (by decide) (by omega) ?_
              refine q_iconst rfl ?_
              refine v_zret rfl rfl (by decide) ?_
              refine bk_inl ?_
              refine v_if_eq_t (t := 59) rfl (by decide) (by decide) ?_
              refine q_aload_n rfl rfl ?_
              refine v_cv rfl rfl rfl rfl (by decide) ⟨⟨rfl, rfl⟩, by decide, rfl⟩ (Nat.le_of_ble_eq_true rfl) (Nat.le_of_ble_eq_true rfl) ?_
              refine q_aload_n rfl rfl ?_
              refine v_gi (z := 4) (v := 0) rfl rfl rfl (by decide) rfl rfl (hz_118) ?_
              refine v_if_ne_f (t := 11) rfl (by decide) (by decide) ?_
              refine q_iconst rfl ?_
              refine q_goto (t := 12) rfl (by decide) ?_
              refine v_zret rfl rfl (by decide) ?_
              refine bk_inl ?_
              refine v_if_eq_f (t := 73) rfl (by decide) (by decide) ?_
              refine q_aload_n rfl rfl ?_
              refine q_aload_n rfl rfl ?_
              refine q_iload rfl rfl ?_
              have hw_1027 : (wd8_0 F (nx F e1 a) (ln F e1 (nx F e1 a))) = 2 := by omega
              rw [hw_1027]
              have kn_1028 : Hid (c_27 A 0 = jr) := (hF_29 A 0 (fun h => absurd h.1 (np0 hA rfl))).trans (hg_jr)
              have kn_1029 : Hid (c_87 A 0 = jr) := (hF_89 A 0 (fun h => absurd h.1 (np0 hA rfl))).trans (hid kn_1028)
              have kn_1030 : Hid (c_112 A 0 = jr) := (hF_114 A 0 (fun q => q.elim (fun h => absurd h.1 (np0 hA rfl)) (fun q => q.elim (fun h => absurd h.1 (np0 hA rfl)) (fun h => absurd h.1 (np0 hA rfl))))).trans (hid kn_1029)
              have h_1031 : c_112 A 0 = jr := (hid kn_1030)
              have kn_1032 : Hid (c_27 A 1 = st) := (hF_29 A 1 (fun h => absurd h.1 (np0 hA rfl))).trans (hg_st)
              have kn_1033 : Hid (c_87 A 1 = st) := (hF_89 A 1 (fun h => absurd h.1 (np0 hA rfl))).trans (hid kn_1032)
              have kn_1034 : Hid (c_112 A 1 = st) := (hF_114 A 1 (fun q => q.elim (fun h => absurd h.1 (np0 hA rfl)) (fun q => q.elim (fun h => absurd h.1 (np0 hA rfl)) (fun h => absurd h.1 (np0 hA rfl))))).trans (hid kn_1033)
              have h_1035 : c_112 A 1 = st := (hid kn_1034)
              have h_1036 : c_112 A 2 = si := (hid kn_1025)
              refine v_cv rfl rfl rfl (ck_p0 hA) (by omega) ⟨⟨rfl, rfl⟩, by decide, rfl⟩ (Nat.le_of_ble_eq_true rfl) (Nat.le_of_ble_eq_true rfl) (fn_of (s_33 (a2 := 2) hI_113 hA (show 0 ≤ 2 ∧ 2 ≤ 100 from by omega) (by omega) (by omega) (by omega) (fun c_1037 hI_1038 hF_1039 => ?_)))
              intro hG_1040
              refine bk_inl ?_
              refine q_aload_n rfl rfl ?_
              refine q_ldc_s rfl rfl rfl (by decide) ?_
              have h_1041 := ir_1_4 hI_1038
              refine v_cv rfl rfl rfl rfl (by decide) ⟨⟨rfl, rfl⟩, by decide, rfl⟩ (Nat.le_of_ble_eq_true rfl) (Nat.le_of_ble_eq_true rfl) (fn_of (s_11 hI_1038 (q := 9) (nt := 1) (by decide) (by decide) (by decide) (fun c_1042 hI_1043 hF_1044 => ?_)))
              intro hG_1045
              refine bk_inl ?_
              refine v_iinc (v := v + 1) rfl rfl (by decide) (by omega) ?_
              refine q_goto (t := 6) rfl (by decide) ?_
              have h_1046 := ir_1_4 hI_1043
              by_cases h_1047 : c_1042 1 4 = 0
              · skip
                refine Wp_ls [(0, .ref A), (1, .ref 1), (2, vi (v + 1))] (lsub_cons rfl (lsub_cons rfl (lsub_cons rfl lsub_nil))) ?_
                refine gh_stop (s_34_l (sc := sc) (d := dh + 18) (c := c_1042) (Z := fun _ => True) hI_1043 hA (fun _ _ _ => trivial) 124 c_1042 (v + 1) hI_1043 (fun a j hm => rfl) ⟨by omega, by omega⟩ (by omega)) (fun hG_1048 => ?_)
                refine q_aload_n rfl rfl ?_
                refine v_cv rfl rfl rfl rfl (by decide) ⟨⟨rfl, rfl⟩, by decide, rfl⟩ (Nat.le_of_ble_eq_true rfl) (Nat.le_of_ble_eq_true rfl) ?_
                refine q_aload_n rfl rfl ?_
                refine v_gi (z := 5) (v := (-1)) rfl rfl rfl (by decide) rfl rfl (hc_1) ?_
                refine q_iconst rfl ?_
                refine v_ic_ne_f (t := 12) rfl (by decide) (by decide) ?_
                refine q_iconst rfl ?_
                refine q_goto (t := 13) rfl (by decide) ?_
                refine v_zret rfl rfl (by decide) ?_
                refine bk_inl ?_
                refine v_if_eq_f (t := 136) rfl (by decide) (by decide) ?_
                refine q_aload_n rfl rfl ?_
                refine v_cv rfl rfl rfl rfl (by decide) ⟨⟨rfl, rfl⟩, by decide, rfl⟩ (Nat.le_of_ble_eq_true rfl) (Nat.le_of_ble_eq_true rfl) ?_
                refine q_aload_n rfl rfl ?_
                have kn_1049 : Hid (c2 41 3 = e1) := (hFc 41 3 (fun q => q.elim (fun h => absurd h.2 (ni rfl)) (fun q => q.elim (fun h => absurd h.2 (ni rfl)) (fun q => q.elim (fun h => absurd h.2 (ni rfl)) (fun q => q.elim (fun h => absurd h.2 (ni rfl)) (fun q => q.elim (fun h => absurd h.2 (ni rfl)) (fun q => q.elim (fun h => absurd h.2 (ni rfl)) (fun q => q.elim (fun h => absurd h.2 (ni rfl)) (fun q => q.elim (fun h => absurd h (nn rfl)) (fun q => q.elim (fun h => absurd h (nn rfl)) (fun h => absurd h (nn rfl)))))))))))).trans (hr_e1)
                have h_1050 : -2147483648 ≤ (H (nx F e1 a)) ∧ (H (nx F e1 a)) ≤ 2147483647 := by rw [← hH (nx F e1 a)]; exact ir_43 hI (nx F e1 a)
                have h_1051 := hU (nx F e1 a) (by omega) (by omega)
                have h_1052 := hb_or (b := H) (e := e1) (r := (nx F e1 a))
                have h_1053 := hb_bd (b := H) (e := e1) (r := (nx F e1 a)) (lo := -2147483648) (hi := 2147483647) ⟨by omega, by omega⟩ (by decide)
                refine v_cv rfl rfl rfl rfl (by decide) ⟨⟨rfl, rfl⟩, by decide, rfl⟩ (Nat.le_of_ble_eq_true rfl) (Nat.le_of_ble_eq_true rfl) (f_154 (e1 := e1) (a9 := a) (B := H) (r8 := (nx F e1 a)) (r := (hb H e1 (nx F e1 a))) hI2 ((hid kn_1049)) ((hr_a)) (fun j => (hFc 43 j (fun q => q.elim (fun h => absurd h.1 (nn rfl)) (fun q => q.elim (fun h => absurd h.1 (nn rfl)) (fun q => q.elim (fun h => absurd h.1 (nn rfl)) (fun q => q.elim (fun h => absurd h.1 (nn rfl)) (fun q => q.elim (fun h => absurd h.1 (nn rfl)) (fun q => q.elim (fun h => absurd h.1 (nn rfl)) (fun q => q.elim (fun h => absurd h.1 (nn rfl)) (fun q => q.elim (fun h => absurd h (nn rfl)) (fun q => q.elim (fun h => absurd h (nn rfl)) (fun h => absurd h (nn rfl)))))))))))).trans (hH j)) ((nx_tr hU (by omega) (by omega)).trans (rfl)) rfl (fun c_1054 hI_1055 hF_1056 h_1057 => ?_))
                refine bk_inl ?_
                refine q_pop rfl rfl ?_
                refine q_aload_n rfl rfl ?_
                refine v_gi (z := 4) (v := (nx F e1 a)) rfl rfl rfl (by decide) rfl rfl (h_1057) ?_
                refine q_aload_n rfl rfl ?_
                have kn_1058 : Hid (c_1054 41 3 = e1) := (hF_1056 41 3 (fun h => absurd h.2 (ni rfl))).trans (hid kn_1049)
                refine v_gi (z := 3) (v := e1) rfl rfl rfl (by decide) rfl rfl (hid kn_1058) ?_
                refine v_ic_ge_f (t := 20) rfl (by decide) (by omega) ?_
                refine q_iconst rfl ?_
                refine q_goto (t := 21) rfl (by decide) ?_
                refine v_zret rfl rfl (by decide) ?_
                refine bk_inl ?_
                refine v_if_eq_f (t := 136) rfl (by decide) (by decide) ?_
                refine q_aload_n rfl rfl ?_
                have h_1059 := wv_bd (b := F) (r := (nx F e1 a)) (l := (ln F e1 (nx F e1 a))) (fun j h1 h2 => ⟨(ln_in (e := e1) (a := (nx F e1 a)) h1 (by omega)).1, (ln_in (e := e1) (a := (nx F e1 a)) h1 (by omega)).2.1⟩)
                have h_1060 := wr8_2 (b := F) (r := (nx F e1 a)) (l := (ln F e1 (nx F e1 a))) (by omega) (fun j h1 h2 => ⟨(ln_in (e := e1) (a := (nx F e1 a)) h1 (by omega)).1, (ln_in (e := e1) (a := (nx F e1 a)) h1 (by omega)).2.1⟩) (by omega)
                refine v_cv rfl rfl rfl rfl (by decide) ⟨⟨rfl, rfl⟩, by decide, rfl⟩ (Nat.le_of_ble_eq_true rfl) (Nat.le_of_ble_eq_true rfl) (f_157 (e1 := e1) (a9 := (nx F e1 a)) (B := H) (r8 := (nx F e1 a)) (L8 := (ln F e1 (nx F e1 a))) (W8 := (wv F (nx F e1 a) (ln F e1 (nx F e1 a)))) hI_1055 ((hid kn_1058)) ((h_1057)) (fun j => ((hF_1056 43 j (fun h => absurd h.1 (nn rfl))).trans (hFc 43 j (fun q => q.elim (fun h => absurd h.1 (nn rfl)) (fun q => q.elim (fun h => absurd h.1 (nn rfl)) (fun q => q.elim (fun h => absurd h.1 (nn rfl)) (fun q => q.elim (fun h => absurd h.1 (nn rfl)) (fun q => q.elim (fun h => absurd h.1 (nn rfl)) (fun q => q.elim (fun h => absurd h.1 (nn rfl)) (fun q => q.elim (fun h => absurd h.1 (nn rfl)) (fun q => q.elim (fun h => absurd h (nn rfl)) (fun q => q.elim (fun h => absurd h (nn rfl)) (fun h => absurd h (nn rfl))))))))))))).trans (hH j)) ((nx_tr hU (by omega) (by omega)).trans ((nx_z (by omega)))) ((ln_tr hU (by omega) (by omega)).trans (rfl)) ((wv_tr hU (by omega) (by omega) (fun j h1 h2 => ⟨(ln_in (e := e1) (a := (nx F e1 a)) h1 (by omega)).1, (ln_in (e := e1) (a := (nx F e1 a)) h1 (by omega)).2.1⟩)).trans (rfl)) (fun c_1061 hI_1062 hF_1063 hz_1064 => ?_))
                refine bk_inl ?_
                refine q_istore_n rfl (by decide) ?_
                refine q_iload_n rfl rfl ?_
                refine q_call rfl rfl rfl rfl ?_
                refine q_iload_n rfl rfl ?_
                refine q_ldc_s rfl rfl rfl (by decide) ?_
                refine q_call rfl rfl rfl rfl (s_158_16 ?_)
                refine bk_inl ?_
                refine v_ic_eq_f (t := 36) rfl (by decide) (by omega) ?_
                refine q_iload_n rfl rfl ?_
                refine q_ldc_s rfl rfl rfl (by decide) ?_
                refine q_call rfl rfl rfl rfl (s_158_17 ?_)
                refine bk_inl ?_
                refine v_ic_eq_f (t := 36) rfl (by decide) (by omega) ?_
                refine q_iload_n rfl rfl ?_
                refine q_ldc_s rfl rfl rfl (by decide) ?_
                refine q_call rfl rfl rfl rfl (s_158_18 ?_)
                refine bk_inl ?_
                refine v_ic_eq_t (t := 36) rfl (by decide) (by omega) ?_
                refine q_iconst rfl ?_
                refine q_goto (t := 41) rfl (by decide) ?_
                refine v_zret rfl rfl (by decide) ?_
                refine bk_inl ?_
                refine v_if_ne_t (t := 82) rfl (by decide) (by decide) ?_
                refine q_iload_n rfl rfl ?_
                refine v_bip rfl (by decide) ?_
                refine v_ic_eq_f (t := 96) rfl (by decide) (by omega) ?_
                refine q_aload_n rfl rfl ?_
                refine q_iload_n rfl rfl ?_
                refine v_cv rfl rfl rfl rfl (by decide) ⟨⟨rfl, rfl⟩, by decide, rfl⟩ (Nat.le_of_ble_eq_true rfl) (Nat.le_of_ble_eq_true rfl) ?_
                refine q_iload_n rfl rfl ?_
                refine q_ldc_s rfl rfl rfl (by decide) ?_
                refine q_call rfl rfl rfl rfl (s_158_16 ?_)
                refine bk_inl ?_
                refine v_ic_ne_t (t := 26) rfl (by decide) (by omega) ?_
                refine q_iload_n rfl rfl ?_
                refine q_ldc_s rfl rfl rfl (by decide) ?_
                refine q_call rfl rfl rfl rfl (s_158_17 ?_)
                refine bk_inl ?_
                refine v_ic_ne_t (t := 51) rfl (by decide) (by omega) ?_
                refine q_iload_n rfl rfl ?_
                refine q_ldc_s rfl rfl rfl (by decide) ?_
                refine q_call rfl rfl rfl rfl (s_158_18 ?_)
                refine bk_inl ?_
                refine v_ic_ne_f (t := 72) rfl (by decide) (by omega) ?_
                refine q_aload_n rfl rfl ?_
                have kn_1065 : Hid (c_1054 41 18 = si) := (hF_1056 41 18 (fun h => absurd h.2 (ni rfl))).trans (hr_si)
                have kn_1066 : Hid (c_1061 41 18 = si) := (hF_1063 41 18 (fun h => absurd h.2 (ni rfl))).trans (hid kn_1065)
                refine v_gi (z := 18) (v := si) rfl rfl rfl (by decide) rfl rfl (hid kn_1066) ?_
                refine q_iconst rfl ?_
                refine v_ic_ne_t (t := 72) rfl (by decide) (by omega) ?_
                refine q_iconst rfl ?_
                refine v_zret rfl rfl (by decide) ?_
                refine bk_inl ?_
                refine v_if_eq_t (t := 105) rfl (by decide) (by decide) ?_
                refine q_aload_n rfl rfl ?_
                refine v_cv rfl rfl rfl rfl (by decide) ⟨⟨rfl, rfl⟩, by decide, rfl⟩ (Nat.le_of_ble_eq_true rfl) (Nat.le_of_ble_eq_true rfl) ?_
                refine q_aload_n rfl rfl ?_
                have kn_1067 : Hid (c_1054 41 5 = (-1)) := (hF_1056 41 5 (fun h => absurd h.2 (ni rfl))).trans (hc_1)
                have kn_1068 : Hid (c_1061 41 5 = (-1)) := (hF_1063 41 5 (fun h => absurd h.2 (ni rfl))).trans (hid kn_1067)
                refine v_gi (z := 5) (v := (-1)) rfl rfl rfl (by decide) rfl rfl (hid kn_1068) ?_
                refine q_iconst rfl ?_
                refine v_ic_ne_f (t := 12) rfl (by decide) (by decide) ?_
                refine q_iconst rfl ?_
                refine q_goto (t := 13) rfl (by decide) ?_
                refine v_zret rfl rfl (by decide) ?_
                refine bk_inl ?_
                refine v_if_ne_t (t := 115) rfl (by decide) (by decide) ?_
                refine q_aload_n rfl rfl ?_
                have kn_1069 : Hid (c_1061 41 3 = e1) := (hF_1063 41 3 (fun h => absurd h.2 (ni rfl))).trans (hid kn_1058)
                refine v_cv rfl rfl rfl rfl (by decide) ⟨⟨rfl, rfl⟩, by decide, rfl⟩ (Nat.le_of_ble_eq_true rfl) (Nat.le_of_ble_eq_true rfl) (f_159 (e1 := e1) (a9 := (nx F e1 a)) (B := H) (L8 := (ln F e1 (nx F e1 a))) hI_1062 ((hid kn_1069)) ((hz_1064)) (fun j => ((hF_1063 43 j (fun h => absurd h.1 (nn rfl))).trans ((hF_1056 43 j (fun h => absurd h.1 (nn rfl))).trans (hFc 43 j (fun q => q.elim (fun h => absurd h.1 (nn rfl)) (fun q => q.elim (fun h => absurd h.1 (nn rfl)) (fun q => q.elim (fun h => absurd h.1 (nn rfl)) (fun q => q.elim (fun h => absurd h.1 (nn rfl)) (fun q => q.elim (fun h => absurd h.1 (nn rfl)) (fun q => q.elim (fun h => absurd h.1 (nn rfl)) (fun q => q.elim (fun h => absurd h.1 (nn rfl)) (fun q => q.elim (fun h => absurd h (nn rfl)) (fun q => q.elim (fun h => absurd h (nn rfl)) (fun h => absurd h (nn rfl)))))))))))))).trans (hH j)) ((ln_tr hU (by omega) (by omega)).trans (rfl)) (fun c_1070 hI_1071 hF_1072 hz_1073 => ?_))
                refine bk_inl ?_
                refine q_aload_n rfl rfl ?_
                refine q_iload_n rfl rfl ?_
                have hw_1074 : (wv F (nx F e1 a) (ln F e1 (nx F e1 a))) = 20223685 := by omega
                rw [hw_1074]
                have kn_1075 : Hid (c_112 1 1 = e1) := (hF_114 1 1 (fun q => q.elim (fun h => absurd h.2 (ni rfl)) (fun q => q.elim (fun h => absurd h.2 (ni rfl)) (fun h => absurd h.2 (ni rfl))))).trans (hid kn_91)
                have kn_1076 : Hid (c_1070 41 3 = e1) := (hF_1072 41 3 (fun h => absurd h.2 (ni rfl))).trans (hid kn_1069)
                have kn_1077 : Hid (c_1054 41 16 = jr) := (hF_1056 41 16 (fun h => absurd h.2 (ni rfl))).trans (hr_jr)
                have kn_1078 : Hid (c_1061 41 16 = jr) := (hF_1063 41 16 (fun h => absurd h.2 (ni rfl))).trans (hid kn_1077)
                have kn_1079 : Hid (c_1070 41 16 = jr) := (hF_1072 41 16 (fun h => absurd h.2 (ni rfl))).trans (hid kn_1078)
                have kn_1080 : Hid (c_1054 41 17 = st) := (hF_1056 41 17 (fun h => absurd h.2 (ni rfl))).trans (hr_st)
                have kn_1081 : Hid (c_1061 41 17 = st) := (hF_1063 41 17 (fun h => absurd h.2 (ni rfl))).trans (hid kn_1080)
                have kn_1082 : Hid (c_1070 41 17 = st) := (hF_1072 41 17 (fun h => absurd h.2 (ni rfl))).trans (hid kn_1081)
                have kn_1083 : Hid (c_1070 41 18 = si) := (hF_1072 41 18 (fun h => absurd h.2 (ni rfl))).trans (hid kn_1066)
                have kn_1084 : Hid (c_27 A 3 = du) := (hF_29 A 3 (fun h => absurd h.1 (np0 hA rfl))).trans (hg_du)
                have kn_1085 : Hid (c_87 A 3 = du) := (hF_89 A 3 (fun h => absurd h.1 (np0 hA rfl))).trans (hid kn_1084)
                have kn_1086 : Hid (c_112 A 3 = du) := (hF_114 A 3 (fun q => q.elim (fun h => absurd h.1 (np0 hA rfl)) (fun q => q.elim (fun h => absurd h.1 (np0 hA rfl)) (fun h => absurd h.1 (np0 hA rfl))))).trans (hid kn_1085)
                have kn_1087 : Hid (c_1054 41 19 = du) := (hF_1056 41 19 (fun h => absurd h.2 (ni rfl))).trans (hr_du)
                have kn_1088 : Hid (c_1061 41 19 = du) := (hF_1063 41 19 (fun h => absurd h.2 (ni rfl))).trans (hid kn_1087)
                have kn_1089 : Hid (c_1070 41 19 = du) := (hF_1072 41 19 (fun h => absurd h.2 (ni rfl))).trans (hid kn_1088)
                have h_1090 : c_112 1 4 = 0 := (hz_118)
                have h_1091 : c_112 1 2 = (ln F e1 (nx F e1 a)) := (hz_117)
                have h_1092 : c_112 1 5 = (-1) := (hz_119)
                have kn_1093 : Hid (c_1070 41 5 = (-1)) := (hF_1072 41 5 (fun h => absurd h.2 (ni rfl))).trans (hid kn_1068)
                have h_1094 : c_1070 41 5 = (-1) := (hid kn_1093)
                have h_1095 : c_1070 41 4 = (ln F e1 (nx F e1 a)) := (hz_1073)
                have h_1096 := ir_41_6 hI2
                have kn_1097 : Hid (c_1054 41 6 = c2 41 6) := hF_1056 41 6 (fun h => absurd h.2 (ni rfl))
                have kn_1098 : Hid (c_1061 41 6 = c2 41 6) := (hF_1063 41 6 (fun h => absurd h.2 (ni rfl))).trans (hid kn_1097)
                have kn_1099 : Hid (c_1070 41 6 = c2 41 6) := (hF_1072 41 6 (fun h => absurd h.2 (ni rfl))).trans (hid kn_1098)
                have h_1100 : c_1070 41 6 = c2 41 6 := (hid kn_1099)
                have hA_1101 : Ae (4 * jr) (c_112 (A + 1)) (c_1070 44) := ae_fr hrl0 (fun j => (hF_114 (A + 1) j (fun q => q.elim (fun h => absurd h.1 (np hA rfl rfl)) (fun q => q.elim (fun h => absurd h.1 (np hA rfl rfl)) (fun h => absurd h.1 (np hA rfl rfl))))).trans ((hF_89 (A + 1) j (fun h => absurd h.1 (np hA rfl rfl))).trans (hF_29 (A + 1) j (fun h => absurd h.1 (np hA rfl rfl))))) (fun j => (hF_1072 44 j (fun h => absurd h.1 (nn rfl))).trans ((hF_1063 44 j (fun h => absurd h.1 (nn rfl))).trans (hF_1056 44 j (fun h => absurd h.1 (nn rfl)))))
                have hA_1102 : Ae (3 * st) (c_112 (A + 2)) (c_1070 45) := ae_fr hrl1 (fun j => (hF_114 (A + 2) j (fun q => q.elim (fun h => absurd h.1 (np hA rfl rfl)) (fun q => q.elim (fun h => absurd h.1 (np hA rfl rfl)) (fun h => absurd h.1 (np hA rfl rfl))))).trans ((hF_89 (A + 2) j (fun h => absurd h.1 (np hA rfl rfl))).trans (hF_29 (A + 2) j (fun h => absurd h.1 (np hA rfl rfl))))) (fun j => (hF_1072 45 j (fun h => absurd h.1 (nn rfl))).trans ((hF_1063 45 j (fun h => absurd h.1 (nn rfl))).trans (hF_1056 45 j (fun h => absurd h.1 (nn rfl)))))
                have hA_1103 : Ae si (c_112 (A + 3)) (c_1070 46) := ae_fr hrl2 (fun j => (hF_114 (A + 3) j (fun q => q.elim (fun h => absurd h.1 (np hA rfl rfl)) (fun q => q.elim (fun h => absurd h.1 (np hA rfl rfl)) (fun h => absurd h.1 (np hA rfl rfl))))).trans ((hF_89 (A + 3) j (fun h => absurd h.1 (np hA rfl rfl))).trans (hF_29 (A + 3) j (fun h => absurd h.1 (np hA rfl rfl))))) (fun j => (hF_1072 46 j (fun h => absurd h.1 (nn rfl))).trans ((hF_1063 46 j (fun h => absurd h.1 (nn rfl))).trans (hF_1056 46 j (fun h => absurd h.1 (nn rfl)))))
                refine v_cv rfl rfl rfl rfl (by decide) ⟨⟨rfl, rfl⟩, by decide, rfl⟩ (Nat.le_of_ble_eq_true rfl) (Nat.le_of_ble_eq_true rfl) (L_33a_2 (m := c_112) (e1 := e1) (jr := jr) (st := st) (si := si) (du := du) (F := F) (H := H) hI_1071 hI_113 hI_1038 hA (by omega) ((hid kn_1075)) ((hid kn_1076)) ((hid kn_1030)) ((hid kn_1079)) ((hid kn_1034)) ((hid kn_1082)) ((hid kn_1025)) ((hid kn_1083)) ((hid kn_1086)) ((hid kn_1089)) (fun j => ((hF_114 2 j (fun q => q.elim (fun h => absurd h.1 (nn rfl)) (fun q => q.elim (fun h => absurd h.1 (nn rfl)) (fun h => absurd h.1 (nn rfl))))).trans ((hF_89 2 j (fun h => absurd h.1 (nn rfl))).trans ((hF_29 2 j (fun h => absurd h.1 (nn rfl))).trans (hFm 2 j (fun q => q.elim (fun h => absurd h.1 (nn rfl)) (fun q => q.elim (fun h => absurd h.1 (nn rfl)) (fun q => q.elim (fun h => absurd h.1 (nn rfl)) (fun q => q.elim (fun h => absurd h.1 (pn0 hA rfl)) (fun q => q.elim (fun h => absurd h.1 (pn0 hA rfl)) (fun q => q.elim (fun h => absurd h.1 (pn0 hA rfl)) (fun q => q.elim (fun h => absurd h.1 (pn0 hA rfl)) (fun q => q.elim (fun h => absurd h (pn hA rfl rfl)) (fun q => q.elim (fun h => absurd h (pn hA rfl rfl)) (fun q => q.elim (fun h => absurd h (pn hA rfl rfl)) (fun q => q.elim (fun h => absurd h.1 (pn0 hA rfl)) (fun q => q.elim (fun h => absurd h.1 (pn0 hA rfl)) (fun q => q.elim (fun h => absurd h (pn hA rfl rfl)) (fun h => absurd h.1 (pn hA rfl rfl))))))))))))))))))).trans (hF j)) (fun j => ((hF_1072 43 j (fun h => absurd h.1 (nn rfl))).trans ((hF_1063 43 j (fun h => absurd h.1 (nn rfl))).trans ((hF_1056 43 j (fun h => absurd h.1 (nn rfl))).trans (hFc 43 j (fun q => q.elim (fun h => absurd h.1 (nn rfl)) (fun q => q.elim (fun h => absurd h.1 (nn rfl)) (fun q => q.elim (fun h => absurd h.1 (nn rfl)) (fun q => q.elim (fun h => absurd h.1 (nn rfl)) (fun q => q.elim (fun h => absurd h.1 (nn rfl)) (fun q => q.elim (fun h => absurd h.1 (nn rfl)) (fun q => q.elim (fun h => absurd h.1 (nn rfl)) (fun q => q.elim (fun h => absurd h (nn rfl)) (fun q => q.elim (fun h => absurd h (nn rfl)) (fun h => absurd h (nn rfl))))))))))))))).trans (hH j)) hU (by unfold Rt; omega) (ae_le hA_1101 (by omega)) (ae_le hA_1102 (by omega)) (ae_le hA_1103 (by omega)) hG_1040 (fun c_1104 hI_1105 hF_1106 hR_1108 h_1109 h_1110 h_1111 h_1112 hA_1113 hA_1114 hA_1115 => ?_))
                refine bk_inl ?_
                have h_1116 := ir_41_16 hI_1105
                have h_1117 := ir_p0_0 hI_1038 hA
                have h_1118 := ir_41_17 hI_1105
                have h_1119 := ir_p0_1 hI_1038 hA
                have h_1120 := ir_41_18 hI_1105
                have h_1121 := ir_p0_2 hI_1038 hA
                have h_1122 := ir_41_19 hI_1105
                have h_1123 := ir_p0_3 hI_1038 hA
                refine q_aload_n rfl rfl ?_
                refine v_bip rfl (by decide) ?_
                have kn_1124 : Hid (c_1037 1 1 = e1) := (hF_1039 1 1 (fun q => q.elim (fun h => absurd h.2 (ni rfl)) (fun q => q.elim (fun h => absurd h.2 (ni rfl)) (fun q => q.elim (fun h => absurd h.2 (ni rfl)) (fun q => q.elim (fun h => absurd h.1 (pn0 hA rfl)) (fun q => q.elim (fun h => absurd h.1 (pn0 hA rfl)) (fun q => q.elim (fun h => absurd h.1 (pn0 hA rfl)) (fun q => q.elim (fun h => absurd h.1 (pn0 hA rfl)) (fun q => q.elim (fun h => absurd h (pn hA rfl rfl)) (fun q => q.elim (fun h => absurd h (pn hA rfl rfl)) (fun h => absurd h (pn hA rfl rfl)))))))))))).trans (hid kn_1075)
                have kn_1125 : Hid (c_1104 41 3 = e1) := (hF_1106 41 3 (fun q => q.elim (fun h => absurd h.2 (ni rfl)) (fun q => q.elim (fun h => absurd h.2 (ni rfl)) (fun q => q.elim (fun h => absurd h.2 (ni rfl)) (fun q => q.elim (fun h => absurd h.2 (ni rfl)) (fun q => q.elim (fun h => absurd h.2 (ni rfl)) (fun q => q.elim (fun h => absurd h.2 (ni rfl)) (fun q => q.elim (fun h => absurd h.2 (ni rfl)) (fun q => q.elim (fun h => absurd h (nn rfl)) (fun q => q.elim (fun h => absurd h (nn rfl)) (fun h => absurd h (nn rfl)))))))))))).trans (hid kn_1076)
                have h_1126 := ir_1_2 hI_1038
                refine v_cv rfl rfl rfl rfl (by decide) ⟨⟨rfl, rfl⟩, by decide, rfl⟩ (Nat.le_of_ble_eq_true rfl) (Nat.le_of_ble_eq_true rfl) (L_11_9 (m := c_1037) (e1 := e1) (a9 := c_1037 1 2) (F := F) (H := H) hI_1105 hI_1038 hI_1043 ((hid kn_1124)) ((hid kn_1125)) (rfl) (fun j => ((hF_1039 2 j (fun q => q.elim (fun h => absurd h.1 (nn rfl)) (fun q => q.elim (fun h => absurd h.1 (nn rfl)) (fun q => q.elim (fun h => absurd h.1 (nn rfl)) (fun q => q.elim (fun h => absurd h.1 (pn0 hA rfl)) (fun q => q.elim (fun h => absurd h.1 (pn0 hA rfl)) (fun q => q.elim (fun h => absurd h.1 (pn0 hA rfl)) (fun q => q.elim (fun h => absurd h.1 (pn0 hA rfl)) (fun q => q.elim (fun h => absurd h (pn hA rfl rfl)) (fun q => q.elim (fun h => absurd h (pn hA rfl rfl)) (fun h => absurd h (pn hA rfl rfl)))))))))))).trans ((hF_114 2 j (fun q => q.elim (fun h => absurd h.1 (nn rfl)) (fun q => q.elim (fun h => absurd h.1 (nn rfl)) (fun h => absurd h.1 (nn rfl))))).trans ((hF_89 2 j (fun h => absurd h.1 (nn rfl))).trans ((hF_29 2 j (fun h => absurd h.1 (nn rfl))).trans (hFm 2 j (fun q => q.elim (fun h => absurd h.1 (nn rfl)) (fun q => q.elim (fun h => absurd h.1 (nn rfl)) (fun q => q.elim (fun h => absurd h.1 (nn rfl)) (fun q => q.elim (fun h => absurd h.1 (pn0 hA rfl)) (fun q => q.elim (fun h => absurd h.1 (pn0 hA rfl)) (fun q => q.elim (fun h => absurd h.1 (pn0 hA rfl)) (fun q => q.elim (fun h => absurd h.1 (pn0 hA rfl)) (fun q => q.elim (fun h => absurd h (pn hA rfl rfl)) (fun q => q.elim (fun h => absurd h (pn hA rfl rfl)) (fun q => q.elim (fun h => absurd h (pn hA rfl rfl)) (fun q => q.elim (fun h => absurd h.1 (pn0 hA rfl)) (fun q => q.elim (fun h => absurd h.1 (pn0 hA rfl)) (fun q => q.elim (fun h => absurd h (pn hA rfl rfl)) (fun h => absurd h.1 (pn hA rfl rfl)))))))))))))))))))).trans (hF j)) (fun j => ((hF_1106 43 j (fun q => q.elim (fun h => absurd h.1 (nn rfl)) (fun q => q.elim (fun h => absurd h.1 (nn rfl)) (fun q => q.elim (fun h => absurd h.1 (nn rfl)) (fun q => q.elim (fun h => absurd h.1 (nn rfl)) (fun q => q.elim (fun h => absurd h.1 (nn rfl)) (fun q => q.elim (fun h => absurd h.1 (nn rfl)) (fun q => q.elim (fun h => absurd h.1 (nn rfl)) (fun q => q.elim (fun h => absurd h (nn rfl)) (fun q => q.elim (fun h => absurd h (nn rfl)) (fun h => absurd h (nn rfl)))))))))))).trans ((hF_1072 43 j (fun h => absurd h.1 (nn rfl))).trans ((hF_1063 43 j (fun h => absurd h.1 (nn rfl))).trans ((hF_1056 43 j (fun h => absurd h.1 (nn rfl))).trans (hFc 43 j (fun q => q.elim (fun h => absurd h.1 (nn rfl)) (fun q => q.elim (fun h => absurd h.1 (nn rfl)) (fun q => q.elim (fun h => absurd h.1 (nn rfl)) (fun q => q.elim (fun h => absurd h.1 (nn rfl)) (fun q => q.elim (fun h => absurd h.1 (nn rfl)) (fun q => q.elim (fun h => absurd h.1 (nn rfl)) (fun q => q.elim (fun h => absurd h.1 (nn rfl)) (fun q => q.elim (fun h => absurd h (nn rfl)) (fun q => q.elim (fun h => absurd h (nn rfl)) (fun h => absurd h (nn rfl)))))))))))))))).trans (hH j)) hU hR_1108 hG_1045 (fun c_1127 hI_1128 hF_1129 hR_1131 h_1132 => ?_))
                refine bk_inl ?_
                have h_1133 := ir_1_2 hI_1043
                refine v_iinc (v := v + 1) rfl rfl (by decide) (by omega) ?_
                refine q_goto (t := 44) rfl (by decide) ?_
                refine Wp_ls [(0, .ref 41), (1, vi a1), (2, vi (v + 1))] (lsub_cons rfl (lsub_cons rfl (lsub_cons rfl lsub_nil))) ?_
                have h_1134 := ir_41_4 hI_1128
                have h_1135 := ir_1_5 hI_1043
                have h_1136 := ir_41_5 hI_1128
                have h_1137 := ir_41_6 hI_1128
                have h_1138 := rt_ok hR_1131 (by omega)
                have hro_hR_1131 := rt_ok hR_1131 (by omega)
                have kn_1139 : Hid (c_1042 A 0 = c_1037 A 0) := hF_1044 A 0 (fun q => q.elim (fun h => absurd h.1 (np0 hA rfl)) (fun q => q.elim (fun h => absurd h.1 (np0 hA rfl)) (fun h => absurd h.1 (np0 hA rfl))))
                have kn_1140 : Hid (c_1127 41 16 = c_1104 41 16) := hF_1129 41 16 (fun q => q.elim (fun h => absurd h.2 (ni rfl)) (fun q => q.elim (fun h => absurd h.2 (ni rfl)) (fun h => absurd h.2 (ni rfl))))
                have kn_1141 : Hid (c_1042 A 1 = c_1037 A 1) := hF_1044 A 1 (fun q => q.elim (fun h => absurd h.1 (np0 hA rfl)) (fun q => q.elim (fun h => absurd h.1 (np0 hA rfl)) (fun h => absurd h.1 (np0 hA rfl))))
                have kn_1142 : Hid (c_1127 41 17 = c_1104 41 17) := hF_1129 41 17 (fun q => q.elim (fun h => absurd h.2 (ni rfl)) (fun q => q.elim (fun h => absurd h.2 (ni rfl)) (fun h => absurd h.2 (ni rfl))))
                have kn_1143 : Hid (c_1042 A 2 = c_1037 A 2) := hF_1044 A 2 (fun q => q.elim (fun h => absurd h.1 (np0 hA rfl)) (fun q => q.elim (fun h => absurd h.1 (np0 hA rfl)) (fun h => absurd h.1 (np0 hA rfl))))
                have kn_1144 : Hid (c_1127 41 18 = c_1104 41 18) := hF_1129 41 18 (fun q => q.elim (fun h => absurd h.2 (ni rfl)) (fun q => q.elim (fun h => absurd h.2 (ni rfl)) (fun h => absurd h.2 (ni rfl))))
                have kn_1145 : Hid (c_1042 A 3 = c_1037 A 3) := hF_1044 A 3 (fun q => q.elim (fun h => absurd h.1 (np0 hA rfl)) (fun q => q.elim (fun h => absurd h.1 (np0 hA rfl)) (fun h => absurd h.1 (np0 hA rfl))))
                have kn_1146 : Hid (c_1127 41 19 = c_1104 41 19) := hF_1129 41 19 (fun q => q.elim (fun h => absurd h.2 (ni rfl)) (fun q => q.elim (fun h => absurd h.2 (ni rfl)) (fun h => absurd h.2 (ni rfl))))
                have hA_1147 : Ae (4 * c_1104 41 16) (c_1042 (A + 1)) (c_1127 44) := ae_fr hA_1113 (fun j => hF_1044 (A + 1) j (fun q => q.elim (fun h => absurd h.1 (np hA rfl rfl)) (fun q => q.elim (fun h => absurd h.1 (np hA rfl rfl)) (fun h => absurd h.1 (np hA rfl rfl))))) (fun j => hF_1129 44 j (fun q => q.elim (fun h => absurd h.1 (nn rfl)) (fun q => q.elim (fun h => absurd h.1 (nn rfl)) (fun h => absurd h.1 (nn rfl)))))
                have hA_1148 : Ae (4 * c_1037 A 0) (c_1042 (A + 1)) (c_1127 44) := ae_le hA_1147 (by omega)
                have hA_1149 : Ae (3 * c_1104 41 17) (c_1042 (A + 2)) (c_1127 45) := ae_fr hA_1114 (fun j => hF_1044 (A + 2) j (fun q => q.elim (fun h => absurd h.1 (np hA rfl rfl)) (fun q => q.elim (fun h => absurd h.1 (np hA rfl rfl)) (fun h => absurd h.1 (np hA rfl rfl))))) (fun j => hF_1129 45 j (fun q => q.elim (fun h => absurd h.1 (nn rfl)) (fun q => q.elim (fun h => absurd h.1 (nn rfl)) (fun h => absurd h.1 (nn rfl)))))
                have hA_1150 : Ae (3 * c_1037 A 1) (c_1042 (A + 2)) (c_1127 45) := ae_le hA_1149 (by omega)
                have hA_1151 : Ae (c_1104 41 18) (c_1042 (A + 3)) (c_1127 46) := ae_fr hA_1115 (fun j => hF_1044 (A + 3) j (fun q => q.elim (fun h => absurd h.1 (np hA rfl rfl)) (fun q => q.elim (fun h => absurd h.1 (np hA rfl rfl)) (fun h => absurd h.1 (np hA rfl rfl))))) (fun j => hF_1129 46 j (fun q => q.elim (fun h => absurd h.1 (nn rfl)) (fun q => q.elim (fun h => absurd h.1 (nn rfl)) (fun h => absurd h.1 (nn rfl)))))
                have hA_1152 : Ae (c_1037 A 2) (c_1042 (A + 3)) (c_1127 46) := ae_le hA_1151 (by omega)
                exact ih c_1127 c_1042 (v + 1) (c_1042 1 2) (c_1037 A 0) (c_1037 A 1) (c_1037 A 2) (c_1037 A 3) hI_1128 (fun a j hm => (hF_1129 a j (fun q => q.elim (fun h => hm (Or.inl h)) (fun q => q.elim (fun h => hm (Or.inr (Or.inl h))) (fun h => hm (Or.inr (Or.inr (Or.inl h))))))).trans ((hF_1106 a j (fun q => q.elim (fun h => hm (Or.inl h)) (fun q => q.elim (fun h => hm (Or.inr (Or.inl h))) (fun q => q.elim (fun h => hm (Or.inr (Or.inr (Or.inl h)))) (fun q => q.elim (fun h => hm (Or.inr (Or.inr (Or.inr (Or.inl h))))) (fun q => q.elim (fun h => hm (Or.inr (Or.inr (Or.inr (Or.inr (Or.inl h)))))) (fun q => q.elim (fun h => hm (Or.inr (Or.inr (Or.inr (Or.inr (Or.inr (Or.inl h))))))) (fun q => q.elim (fun h => hm (Or.inr (Or.inr (Or.inr (Or.inr (Or.inr (Or.inr (Or.inl h)))))))) (fun q => q.elim (fun h => hm (Or.inr (Or.inr (Or.inr (Or.inr (Or.inr (Or.inr (Or.inr (Or.inl h))))))))) (fun q => q.elim (fun h => hm (Or.inr (Or.inr (Or.inr (Or.inr (Or.inr (Or.inr (Or.inr (Or.inr (Or.inl h)))))))))) (fun h => hm (Or.inr (Or.inr (Or.inr (Or.inr (Or.inr (Or.inr (Or.inr (Or.inr (Or.inr h)))))))))))))))))))).trans ((hF_1072 a j (fun h => hm (Or.inl h))).trans ((hF_1063 a j (fun h => hm (Or.inl h))).trans ((hF_1056 a j (fun h => hm (Or.inl h))).trans (hFc a j (fun q => q.elim (fun h => hm (Or.inl h)) (fun q => q.elim (fun h => hm (Or.inr (Or.inl h))) (fun q => q.elim (fun h => hm (Or.inr (Or.inr (Or.inl h)))) (fun q => q.elim (fun h => hm (Or.inr (Or.inr (Or.inr (Or.inl h))))) (fun q => q.elim (fun h => hm (Or.inr (Or.inr (Or.inr (Or.inr (Or.inl h)))))) (fun q => q.elim (fun h => hm (Or.inr (Or.inr (Or.inr (Or.inr (Or.inr (Or.inl h))))))) (fun q => q.elim (fun h => hm (Or.inr (Or.inr (Or.inr (Or.inr (Or.inr (Or.inr (Or.inl h)))))))) (fun q => q.elim (fun h => hm (Or.inr (Or.inr (Or.inr (Or.inr (Or.inr (Or.inr (Or.inr (Or.inl h))))))))) (fun q => q.elim (fun h => hm (Or.inr (Or.inr (Or.inr (Or.inr (Or.inr (Or.inr (Or.inr (Or.inr (Or.inl h)))))))))) (fun h => hm (Or.inr (Or.inr (Or.inr (Or.inr (Or.inr (Or.inr (Or.inr (Or.inr (Or.inr h))))))))))))))))))))))))) hI_1043 (fun a j hm => (hF_1044 a j (fun q => q.elim (fun h => hm (Or.inl h)) (fun q => q.elim (fun h => hm (Or.inr (Or.inl h))) (fun h => hm (Or.inr (Or.inr (Or.inl h))))))).trans ((hF_1039 a j (fun q => q.elim (fun h => hm (Or.inl h)) (fun q => q.elim (fun h => hm (Or.inr (Or.inl h))) (fun q => q.elim (fun h => hm (Or.inr (Or.inr (Or.inl h)))) (fun q => q.elim (fun h => hm (Or.inr (Or.inr (Or.inr (Or.inl h))))) (fun q => q.elim (fun h => hm (Or.inr (Or.inr (Or.inr (Or.inr (Or.inl h)))))) (fun q => q.elim (fun h => hm (Or.inr (Or.inr (Or.inr (Or.inr (Or.inr (Or.inl h))))))) (fun q => q.elim (fun h => hm (Or.inr (Or.inr (Or.inr (Or.inr (Or.inr (Or.inr (Or.inl h)))))))) (fun q => q.elim (fun h => hm (Or.inr (Or.inr (Or.inr (Or.inr (Or.inr (Or.inr (Or.inr (Or.inl h))))))))) (fun q => q.elim (fun h => hm (Or.inr (Or.inr (Or.inr (Or.inr (Or.inr (Or.inr (Or.inr (Or.inr (Or.inl h)))))))))) (fun h => hm (Or.inr (Or.inr (Or.inr (Or.inr (Or.inr (Or.inr (Or.inr (Or.inr (Or.inr (Or.inl h))))))))))))))))))))).trans ((hF_114 a j (fun q => q.elim (fun h => hm (Or.inl h)) (fun q => q.elim (fun h => hm (Or.inr (Or.inl h))) (fun h => hm (Or.inr (Or.inr (Or.inl h))))))).trans ((hF_89 a j (fun h => hm (Or.inl h))).trans ((hF_29 a j (fun h => hm (Or.inl h))).trans (hFm a j (fun q => q.elim (fun h => hm (Or.inl h)) (fun q => q.elim (fun h => hm (Or.inr (Or.inl h))) (fun q => q.elim (fun h => hm (Or.inr (Or.inr (Or.inl h)))) (fun q => q.elim (fun h => hm (Or.inr (Or.inr (Or.inr (Or.inl h))))) (fun q => q.elim (fun h => hm (Or.inr (Or.inr (Or.inr (Or.inr (Or.inl h)))))) (fun q => q.elim (fun h => hm (Or.inr (Or.inr (Or.inr (Or.inr (Or.inr (Or.inl h))))))) (fun q => q.elim (fun h => hm (Or.inr (Or.inr (Or.inr (Or.inr (Or.inr (Or.inr (Or.inl h)))))))) (fun q => q.elim (fun h => hm (Or.inr (Or.inr (Or.inr (Or.inr (Or.inr (Or.inr (Or.inr (Or.inl h))))))))) (fun q => q.elim (fun h => hm (Or.inr (Or.inr (Or.inr (Or.inr (Or.inr (Or.inr (Or.inr (Or.inr (Or.inl h)))))))))) (fun q => q.elim (fun h => hm (Or.inr (Or.inr (Or.inr (Or.inr (Or.inr (Or.inr (Or.inr (Or.inr (Or.inr (Or.inl h))))))))))) (fun q => q.elim (fun h => hm (Or.inr (Or.inr (Or.inr (Or.inr (Or.inr (Or.inr (Or.inr (Or.inr (Or.inr (Or.inr (Or.inl h)))))))))))) (fun q => q.elim (fun h => hm (Or.inr (Or.inr (Or.inr (Or.inr (Or.inr (Or.inr (Or.inr (Or.inr (Or.inr (Or.inr (Or.inr (Or.inl h))))))))))))) (fun q => q.elim (fun h => hm (Or.inr (Or.inr (Or.inr (Or.inr (Or.inr (Or.inr (Or.inr (Or.inr (Or.inr (Or.inr (Or.inr (Or.inr (Or.inl h)))))))))))))) (fun h => hm (Or.inr (Or.inr (Or.inr (Or.inr (Or.inr (Or.inr (Or.inr (Or.inr (Or.inr (Or.inr (Or.inr (Or.inr (Or.inr h))))))))))))))))))))))))))))))))) ⟨by omega, by omega⟩ ⟨by omega, by omega⟩ ⟨by omega, by omega⟩ ⟨by omega, by omega⟩ ⟨by omega, by omega⟩ ⟨by omega, by omega⟩ (rfl) (hro_hR_1131.2.2.1) ((hid kn_1139)) ((show _ = c_1104 41 16 from (hid kn_1140)).trans (by omega)) ((hid kn_1141)) ((show _ = c_1104 41 17 from (hid kn_1142)).trans (by omega)) ((hid kn_1143)) ((show _ = c_1104 41 18 from (hid kn_1144)).trans (by omega)) ((hid kn_1145)) ((show _ = c_1104 41 19 from (hid kn_1146)).trans (by omega)) ((show _ = c_1042 1 4 from rfl).trans (by omega)) (hro_hR_1131.2.1) ((show _ = c_1042 1 5 from rfl).trans (by omega)) (ae_le hA_1148 (by omega)) (ae_le hA_1150 (by omega)) (ae_le hA_1152 (by omega)) hG_1048 (by omega)
              · skip
                refine q_iload_n rfl rfl ?_
                refine v_bip rfl (by decide) ?_
                refine v_ic_gt_f (t := 85) rfl (by decide) (by omega) ?_
                refine q_aload_n rfl rfl ?_
                refine v_cv rfl rfl rfl rfl (by decide) ⟨⟨rfl, rfl⟩, by decide, rfl⟩ (Nat.le_of_ble_eq_true rfl) (Nat.le_of_ble_eq_true rfl) ?_
                refine q_aload_n rfl rfl ?_
                refine v_cv rfl rfl rfl rfl (by decide) ⟨⟨rfl, rfl⟩, by decide, rfl⟩ (Nat.le_of_ble_eq_true rfl) (Nat.le_of_ble_eq_true rfl) ?_
                refine q_aload_n rfl rfl ?_
                refine v_gi (z := 4) (v := c_1042 1 4) rfl rfl rfl (by decide) rfl rfl rfl ?_
                refine v_if_ne_t (t := 11) rfl (by decide) (by omega) ?_
                refine q_iconst rfl ?_
                refine v_zret rfl rfl (by decide) ?_
                refine bk_inl ?_
                refine v_if_eq_t (t := 22) rfl (by decide) (by decide) ?_
                refine q_iconst rfl ?_
                refine v_zret rfl rfl (by decide) ?_
                refine bk_inl ?_
                refine v_if_eq_t (t := 85) rfl (by decide) (by decide) ?_
                refine q_vret rfl rfl ?_
                intro hE_1153
                have hW : Wd P Q P P c_1042 = Wd P Q P P m9 := (Prod.mk.inj (Prod.mk.inj hE_1153).2).1
                have h_1154 := ir_1_4 hJ9
                have h_1155 : m9 1 4 = c_1042 1 4 := wd_fv (z := 4) 4 rfl hW rfl rfl rfl rfl (by decide) rfl ⟨by omega, by omega⟩ ⟨by omega, by omega⟩
                have h_1156 := ir_1_2 hI_1043
                have h_1157 := ir_1_2 hJ9
                have h_1158 : m9 1 2 = c_1042 1 2 := wd_fv (z := 2) 2 rfl hW rfl rfl rfl rfl (by decide) rfl ⟨by omega, by omega⟩ ⟨by omega, by omega⟩
                have h_1159 := ir_1_5 hI_1043
                have h_1160 := ir_1_5 hJ9
                have h_1161 : m9 1 5 = c_1042 1 5 := wd_fv (z := 5) 5 rfl hW rfl rfl rfl rfl (by decide) rfl ⟨by omega, by omega⟩ ⟨by omega, by omega⟩
                have h_1162 := ir_p0_0 hI_1038 hA
                have kn_1163 : Hid (c_1042 A 0 = c_1037 A 0) := hF_1044 A 0 (fun q => q.elim (fun h => absurd h.1 (np0 hA rfl)) (fun q => q.elim (fun h => absurd h.1 (np0 hA rfl)) (fun h => absurd h.1 (np0 hA rfl))))
                have h_1164 := ir_p0_0 hJ9 hA
                have h_1165 : m9 A 0 = c_1037 A 0 := wd_fv (z := 0) 0 rfl hW (ck_p0 hA) (ck_p0 hA) rfl rfl (by omega) (hid kn_1163) ⟨by omega, by omega⟩ ⟨by omega, by omega⟩
                have h_1166 := ir_p0_1 hI_1038 hA
                have kn_1167 : Hid (c_1042 A 1 = c_1037 A 1) := hF_1044 A 1 (fun q => q.elim (fun h => absurd h.1 (np0 hA rfl)) (fun q => q.elim (fun h => absurd h.1 (np0 hA rfl)) (fun h => absurd h.1 (np0 hA rfl))))
                have h_1168 := ir_p0_1 hJ9 hA
                have h_1169 : m9 A 1 = c_1037 A 1 := wd_fv (z := 1) 1 rfl hW (ck_p0 hA) (ck_p0 hA) rfl rfl (by omega) (hid kn_1167) ⟨by omega, by omega⟩ ⟨by omega, by omega⟩
                have h_1170 := ir_p0_2 hI_1038 hA
                have kn_1171 : Hid (c_1042 A 2 = c_1037 A 2) := hF_1044 A 2 (fun q => q.elim (fun h => absurd h.1 (np0 hA rfl)) (fun q => q.elim (fun h => absurd h.1 (np0 hA rfl)) (fun h => absurd h.1 (np0 hA rfl))))
                have h_1172 := ir_p0_2 hJ9 hA
                have h_1173 : m9 A 2 = c_1037 A 2 := wd_fv (z := 2) 2 rfl hW (ck_p0 hA) (ck_p0 hA) rfl rfl (by omega) (hid kn_1171) ⟨by omega, by omega⟩ ⟨by omega, by omega⟩
                have h_1174 := ir_p0_3 hI_1038 hA
                have kn_1175 : Hid (c_1042 A 3 = c_1037 A 3) := hF_1044 A 3 (fun q => q.elim (fun h => absurd h.1 (np0 hA rfl)) (fun q => q.elim (fun h => absurd h.1 (np0 hA rfl)) (fun h => absurd h.1 (np0 hA rfl))))
                have h_1176 := ir_p0_3 hJ9 hA
                have h_1177 : m9 A 3 = c_1037 A 3 := wd_fv (z := 3) 3 rfl hW (ck_p0 hA) (ck_p0 hA) rfl rfl (by omega) (hid kn_1175) ⟨by omega, by omega⟩ ⟨by omega, by omega⟩
                refine q_aload_n rfl rfl ?_
                refine v_cv rfl rfl rfl rfl (by decide) ⟨⟨rfl, rfl⟩, by decide, rfl⟩ (Nat.le_of_ble_eq_true rfl) (Nat.le_of_ble_eq_true rfl) ?_
                refine q_aload_n rfl rfl ?_
                refine v_gi (z := 5) (v := (-1)) rfl rfl rfl (by decide) rfl rfl (hc_1) ?_
                refine q_iconst rfl ?_
                refine v_ic_ne_f (t := 12) rfl (by decide) (by decide) ?_
                refine q_iconst rfl ?_
                refine q_goto (t := 13) rfl (by decide) ?_
                refine v_zret rfl rfl (by decide) ?_
                refine bk_inl ?_
                refine v_if_eq_f (t := 136) rfl (by decide) (by decide) ?_
                refine q_aload_n rfl rfl ?_
                refine v_cv rfl rfl rfl rfl (by decide) ⟨⟨rfl, rfl⟩, by decide, rfl⟩ (Nat.le_of_ble_eq_true rfl) (Nat.le_of_ble_eq_true rfl) ?_
                refine q_aload_n rfl rfl ?_
                have kn_1178 : Hid (c2 41 3 = e1) := (hFc 41 3 (fun q => q.elim (fun h => absurd h.2 (ni rfl)) (fun q => q.elim (fun h => absurd h.2 (ni rfl)) (fun q => q.elim (fun h => absurd h.2 (ni rfl)) (fun q => q.elim (fun h => absurd h.2 (ni rfl)) (fun q => q.elim (fun h => absurd h.2 (ni rfl)) (fun q => q.elim (fun h => absurd h.2 (ni rfl)) (fun q => q.elim (fun h => absurd h.2 (ni rfl)) (fun q => q.elim (fun h => absurd h (nn rfl)) (fun q => q.elim (fun h => absurd h (nn rfl)) (fun h => absurd h (nn rfl)))))))))))).trans (hr_e1)
                have h_1179 : -2147483648 ≤ (H (nx F e1 a)) ∧ (H (nx F e1 a)) ≤ 2147483647 := by rw [← hH (nx F e1 a)]; exact ir_43 hI (nx F e1 a)
                have h_1180 := hU (nx F e1 a) (by omega) (by omega)
                have h_1181 := hb_or (b := H) (e := e1) (r := (nx F e1 a))
                have h_1182 := hb_bd (b := H) (e := e1) (r := (nx F e1 a)) (lo := -2147483648) (hi := 2147483647) ⟨by omega, by omega⟩ (by decide)
                refine v_cv rfl rfl rfl rfl (by decide) ⟨⟨rfl, rfl⟩, by decide, rfl⟩ (Nat.le_of_ble_eq_true rfl) (Nat.le_of_ble_eq_true rfl) (f_154 (e1 := e1) (a9 := a) (B := H) (r8 := (nx F e1 a)) (r := (hb H e1 (nx F e1 a))) hI2 ((hid kn_1178)) ((hr_a)) (fun j => (hFc 43 j (fun q => q.elim (fun h => absurd h.1 (nn rfl)) (fun q => q.elim (fun h => absurd h.1 (nn rfl)) (fun q => q.elim (fun h => absurd h.1 (nn rfl)) (fun q => q.elim (fun h => absurd h.1 (nn rfl)) (fun q => q.elim (fun h => absurd h.1 (nn rfl)) (fun q => q.elim (fun h => absurd h.1 (nn rfl)) (fun q => q.elim (fun h => absurd h.1 (nn rfl)) (fun q => q.elim (fun h => absurd h (nn rfl)) (fun q => q.elim (fun h => absurd h (nn rfl)) (fun h => absurd h (nn rfl)))))))))))).trans (hH j)) ((nx_tr hU (by omega) (by omega)).trans (rfl)) rfl (fun c_1183 hI_1184 hF_1185 h_1186 => ?_))
                refine bk_inl ?_
                refine q_pop rfl rfl ?_
                refine q_aload_n rfl rfl ?_
                refine v_gi (z := 4) (v := (nx F e1 a)) rfl rfl rfl (by decide) rfl rfl (h_1186) ?_
                refine q_aload_n rfl rfl ?_
                have kn_1187 : Hid (c_1183 41 3 = e1) := (hF_1185 41 3 (fun h => absurd h.2 (ni rfl))).trans (hid kn_1178)
                refine v_gi (z := 3) (v := e1) rfl rfl rfl (by decide) rfl rfl (hid kn_1187) ?_
                refine v_ic_ge_f (t := 20) rfl (by decide) (by omega) ?_
                refine q_iconst rfl ?_
                refine q_goto (t := 21) rfl (by decide) ?_
                refine v_zret rfl rfl (by decide) ?_
                refine bk_inl ?_
                refine v_if_eq_f (t := 136) rfl (by decide) (by decide) ?_
                refine q_aload_n rfl rfl ?_
                have h_1188 := wv_bd (b := F) (r := (nx F e1 a)) (l := (ln F e1 (nx F e1 a))) (fun j h1 h2 => ⟨(ln_in (e := e1) (a := (nx F e1 a)) h1 (by omega)).1, (ln_in (e := e1) (a := (nx F e1 a)) h1 (by omega)).2.1⟩)
                have h_1189 := wr8_2 (b := F) (r := (nx F e1 a)) (l := (ln F e1 (nx F e1 a))) (by omega) (fun j h1 h2 => ⟨(ln_in (e := e1) (a := (nx F e1 a)) h1 (by omega)).1, (ln_in (e := e1) (a := (nx F e1 a)) h1 (by omega)).2.1⟩) (by omega)
                refine v_cv rfl rfl rfl rfl (by decide) ⟨⟨rfl, rfl⟩, by decide, rfl⟩ (Nat.le_of_ble_eq_true rfl) (Nat.le_of_ble_eq_true rfl) (f_157 (e1 := e1) (a9 := (nx F e1 a)) (B := H) (r8 := (nx F e1 a)) (L8 := (ln F e1 (nx F e1 a))) (W8 := (wv F (nx F e1 a) (ln F e1 (nx F e1 a)))) hI_1184 ((hid kn_1187)) ((h_1186)) (fun j => ((hF_1185 43 j (fun h => absurd h.1 (nn rfl))).trans (hFc 43 j (fun q => q.elim (fun h => absurd h.1 (nn rfl)) (fun q => q.elim (fun h => absurd h.1 (nn rfl)) (fun q => q.elim (fun h => absurd h.1 (nn rfl)) (fun q => q.elim (fun h => absurd h.1 (nn rfl)) (fun q => q.elim (fun h => absurd h.1 (nn rfl)) (fun q => q.elim (fun h => absurd h.1 (nn rfl)) (fun q => q.elim (fun h => absurd h.1 (nn rfl)) (fun q => q.elim (fun h => absurd h (nn rfl)) (fun q => q.elim (fun h => absurd h (nn rfl)) (fun h => absurd h (nn rfl))))))))))))).trans (hH j)) ((nx_tr hU (by omega) (by omega)).trans ((nx_z (by omega)))) ((ln_tr hU (by omega) (by omega)).trans (rfl)) ((wv_tr hU (by omega) (by omega) (fun j h1 h2 => ⟨(ln_in (e := e1) (a := (nx F e1 a)) h1 (by omega)).1, (ln_in (e := e1) (a := (nx F e1 a)) h1 (by omega)).2.1⟩)).trans (rfl)) (fun c_1190 hI_1191 hF_1192 hz_1193 => ?_))
                refine bk_inl ?_
                refine q_istore_n rfl (by decide) ?_
                refine q_iload_n rfl rfl ?_
                refine q_call rfl rfl rfl rfl ?_
                refine q_iload_n rfl rfl ?_
                refine q_ldc_s rfl rfl rfl (by decide) ?_
                refine q_call rfl rfl rfl rfl (s_158_16 ?_)
                refine bk_inl ?_
                refine v_ic_eq_f (t := 36) rfl (by decide) (by omega) ?_
                refine q_iload_n rfl rfl ?_
                refine q_ldc_s rfl rfl rfl (by decide) ?_
                refine q_call rfl rfl rfl rfl (s_158_17 ?_)
                refine bk_inl ?_
                refine v_ic_eq_f (t := 36) rfl (by decide) (by omega) ?_
                refine q_iload_n rfl rfl ?_
                refine q_ldc_s rfl rfl rfl (by decide) ?_
                refine q_call rfl rfl rfl rfl (s_158_18 ?_)
                refine bk_inl ?_
                refine v_ic_eq_t (t := 36) rfl (by decide) (by omega) ?_
                refine q_iconst rfl ?_
                refine q_goto (t := 41) rfl (by decide) ?_
                refine v_zret rfl rfl (by decide) ?_
                refine bk_inl ?_
                refine v_if_ne_t (t := 82) rfl (by decide) (by decide) ?_
                refine q_iload_n rfl rfl ?_
                refine v_bip rfl (by decide) ?_
                refine v_ic_eq_f (t := 96) rfl (by decide) (by omega) ?_
                refine q_aload_n rfl rfl ?_
                refine q_iload_n rfl rfl ?_
                refine v_cv rfl rfl rfl rfl (by decide) ⟨⟨rfl, rfl⟩, by decide, rfl⟩ (Nat.le_of_ble_eq_true rfl) (Nat.le_of_ble_eq_true rfl) ?_
                refine q_iload_n rfl rfl ?_
                refine q_ldc_s rfl rfl rfl (by decide) ?_
                refine q_call rfl rfl rfl rfl (s_158_16 ?_)
                refine bk_inl ?_
                refine v_ic_ne_t (t := 26) rfl (by decide) (by omega) ?_
                refine q_iload_n rfl rfl ?_
                refine q_ldc_s rfl rfl rfl (by decide) ?_
                refine q_call rfl rfl rfl rfl (s_158_17 ?_)
                refine bk_inl ?_
                refine v_ic_ne_t (t := 51) rfl (by decide) (by omega) ?_
                refine q_iload_n rfl rfl ?_
                refine q_ldc_s rfl rfl rfl (by decide) ?_
                refine q_call rfl rfl rfl rfl (s_158_18 ?_)
                refine bk_inl ?_
                refine v_ic_ne_f (t := 72) rfl (by decide) (by omega) ?_
                refine q_aload_n rfl rfl ?_
                have kn_1194 : Hid (c_1183 41 18 = si) := (hF_1185 41 18 (fun h => absurd h.2 (ni rfl))).trans (hr_si)
                have kn_1195 : Hid (c_1190 41 18 = si) := (hF_1192 41 18 (fun h => absurd h.2 (ni rfl))).trans (hid kn_1194)
                refine v_gi (z := 18) (v := si) rfl rfl rfl (by decide) rfl rfl (hid kn_1195) ?_
                refine q_iconst rfl ?_
                refine v_ic_ne_t (t := 72) rfl (by decide) (by omega) ?_
                refine q_iconst rfl ?_
                refine v_zret rfl rfl (by decide) ?_
                refine bk_inl ?_
                refine v_if_eq_t (t := 105) rfl (by decide) (by decide) ?_
                refine q_aload_n rfl rfl ?_
                refine v_cv rfl rfl rfl rfl (by decide) ⟨⟨rfl, rfl⟩, by decide, rfl⟩ (Nat.le_of_ble_eq_true rfl) (Nat.le_of_ble_eq_true rfl) ?_
                refine q_aload_n rfl rfl ?_
                have kn_1196 : Hid (c_1183 41 5 = (-1)) := (hF_1185 41 5 (fun h => absurd h.2 (ni rfl))).trans (hc_1)
                have kn_1197 : Hid (c_1190 41 5 = (-1)) := (hF_1192 41 5 (fun h => absurd h.2 (ni rfl))).trans (hid kn_1196)
                refine v_gi (z := 5) (v := (-1)) rfl rfl rfl (by decide) rfl rfl (hid kn_1197) ?_
                refine q_iconst rfl ?_
                refine v_ic_ne_f (t := 12) rfl (by decide) (by decide) ?_
                refine q_iconst rfl ?_
                refine q_goto (t := 13) rfl (by decide) ?_
                refine v_zret rfl rfl (by decide) ?_
                refine bk_inl ?_
                refine v_if_ne_t (t := 115) rfl (by decide) (by decide) ?_
                refine q_aload_n rfl rfl ?_
                have kn_1198 : Hid (c_1190 41 3 = e1) := (hF_1192 41 3 (fun h => absurd h.2 (ni rfl))).trans (hid kn_1187)
                refine v_cv rfl rfl rfl rfl (by decide) ⟨⟨rfl, rfl⟩, by decide, rfl⟩ (Nat.le_of_ble_eq_true rfl) (Nat.le_of_ble_eq_true rfl) (f_159 (e1 := e1) (a9 := (nx F e1 a)) (B := H) (L8 := (ln F e1 (nx F e1 a))) hI_1191 ((hid kn_1198)) ((hz_1193)) (fun j => ((hF_1192 43 j (fun h => absurd h.1 (nn rfl))).trans ((hF_1185 43 j (fun h => absurd h.1 (nn rfl))).trans (hFc 43 j (fun q => q.elim (fun h => absurd h.1 (nn rfl)) (fun q => q.elim (fun h => absurd h.1 (nn rfl)) (fun q => q.elim (fun h => absurd h.1 (nn rfl)) (fun q => q.elim (fun h => absurd h.1 (nn rfl)) (fun q => q.elim (fun h => absurd h.1 (nn rfl)) (fun q => q.elim (fun h => absurd h.1 (nn rfl)) (fun q => q.elim (fun h => absurd h.1 (nn rfl)) (fun q => q.elim (fun h => absurd h (nn rfl)) (fun q => q.elim (fun h => absurd h (nn rfl)) (fun h => absurd h (nn rfl)))))))))))))).trans (hH j)) ((ln_tr hU (by omega) (by omega)).trans (rfl)) (fun c_1199 hI_1200 hF_1201 hz_1202 => ?_))
                refine bk_inl ?_
                refine q_aload_n rfl rfl ?_
                refine q_iload_n rfl rfl ?_
                have hw_1203 : (wv F (nx F e1 a) (ln F e1 (nx F e1 a))) = 20223685 := by omega
                rw [hw_1203]
                have kn_1204 : Hid (c_112 1 1 = e1) := (hF_114 1 1 (fun q => q.elim (fun h => absurd h.2 (ni rfl)) (fun q => q.elim (fun h => absurd h.2 (ni rfl)) (fun h => absurd h.2 (ni rfl))))).trans (hid kn_91)
                have kn_1205 : Hid (c_1199 41 3 = e1) := (hF_1201 41 3 (fun h => absurd h.2 (ni rfl))).trans (hid kn_1198)
                have kn_1206 : Hid (c_1183 41 16 = jr) := (hF_1185 41 16 (fun h => absurd h.2 (ni rfl))).trans (hr_jr)
                have kn_1207 : Hid (c_1190 41 16 = jr) := (hF_1192 41 16 (fun h => absurd h.2 (ni rfl))).trans (hid kn_1206)
                have kn_1208 : Hid (c_1199 41 16 = jr) := (hF_1201 41 16 (fun h => absurd h.2 (ni rfl))).trans (hid kn_1207)
                have kn_1209 : Hid (c_1183 41 17 = st) := (hF_1185 41 17 (fun h => absurd h.2 (ni rfl))).trans (hr_st)
                have kn_1210 : Hid (c_1190 41 17 = st) := (hF_1192 41 17 (fun h => absurd h.2 (ni rfl))).trans (hid kn_1209)
                have kn_1211 : Hid (c_1199 41 17 = st) := (hF_1201 41 17 (fun h => absurd h.2 (ni rfl))).trans (hid kn_1210)
                have kn_1212 : Hid (c_1199 41 18 = si) := (hF_1201 41 18 (fun h => absurd h.2 (ni rfl))).trans (hid kn_1195)
                have kn_1213 : Hid (c_27 A 3 = du) := (hF_29 A 3 (fun h => absurd h.1 (np0 hA rfl))).trans (hg_du)
                have kn_1214 : Hid (c_87 A 3 = du) := (hF_89 A 3 (fun h => absurd h.1 (np0 hA rfl))).trans (hid kn_1213)
                have kn_1215 : Hid (c_112 A 3 = du) := (hF_114 A 3 (fun q => q.elim (fun h => absurd h.1 (np0 hA rfl)) (fun q => q.elim (fun h => absurd h.1 (np0 hA rfl)) (fun h => absurd h.1 (np0 hA rfl))))).trans (hid kn_1214)
                have kn_1216 : Hid (c_1183 41 19 = du) := (hF_1185 41 19 (fun h => absurd h.2 (ni rfl))).trans (hr_du)
                have kn_1217 : Hid (c_1190 41 19 = du) := (hF_1192 41 19 (fun h => absurd h.2 (ni rfl))).trans (hid kn_1216)
                have kn_1218 : Hid (c_1199 41 19 = du) := (hF_1201 41 19 (fun h => absurd h.2 (ni rfl))).trans (hid kn_1217)
                have h_1219 : c_112 1 4 = 0 := (hz_118)
                have h_1220 : c_112 1 2 = (ln F e1 (nx F e1 a)) := (hz_117)
                have h_1221 : c_112 1 5 = (-1) := (hz_119)
                have kn_1222 : Hid (c_1199 41 5 = (-1)) := (hF_1201 41 5 (fun h => absurd h.2 (ni rfl))).trans (hid kn_1197)
                have h_1223 : c_1199 41 5 = (-1) := (hid kn_1222)
                have h_1224 : c_1199 41 4 = (ln F e1 (nx F e1 a)) := (hz_1202)
                have h_1225 := ir_41_6 hI2
                have kn_1226 : Hid (c_1183 41 6 = c2 41 6) := hF_1185 41 6 (fun h => absurd h.2 (ni rfl))
                have kn_1227 : Hid (c_1190 41 6 = c2 41 6) := (hF_1192 41 6 (fun h => absurd h.2 (ni rfl))).trans (hid kn_1226)
                have kn_1228 : Hid (c_1199 41 6 = c2 41 6) := (hF_1201 41 6 (fun h => absurd h.2 (ni rfl))).trans (hid kn_1227)
                have h_1229 : c_1199 41 6 = c2 41 6 := (hid kn_1228)
                have hA_1230 : Ae (4 * jr) (c_112 (A + 1)) (c_1199 44) := ae_fr hrl0 (fun j => (hF_114 (A + 1) j (fun q => q.elim (fun h => absurd h.1 (np hA rfl rfl)) (fun q => q.elim (fun h => absurd h.1 (np hA rfl rfl)) (fun h => absurd h.1 (np hA rfl rfl))))).trans ((hF_89 (A + 1) j (fun h => absurd h.1 (np hA rfl rfl))).trans (hF_29 (A + 1) j (fun h => absurd h.1 (np hA rfl rfl))))) (fun j => (hF_1201 44 j (fun h => absurd h.1 (nn rfl))).trans ((hF_1192 44 j (fun h => absurd h.1 (nn rfl))).trans (hF_1185 44 j (fun h => absurd h.1 (nn rfl)))))
                have hA_1231 : Ae (3 * st) (c_112 (A + 2)) (c_1199 45) := ae_fr hrl1 (fun j => (hF_114 (A + 2) j (fun q => q.elim (fun h => absurd h.1 (np hA rfl rfl)) (fun q => q.elim (fun h => absurd h.1 (np hA rfl rfl)) (fun h => absurd h.1 (np hA rfl rfl))))).trans ((hF_89 (A + 2) j (fun h => absurd h.1 (np hA rfl rfl))).trans (hF_29 (A + 2) j (fun h => absurd h.1 (np hA rfl rfl))))) (fun j => (hF_1201 45 j (fun h => absurd h.1 (nn rfl))).trans ((hF_1192 45 j (fun h => absurd h.1 (nn rfl))).trans (hF_1185 45 j (fun h => absurd h.1 (nn rfl)))))
                have hA_1232 : Ae si (c_112 (A + 3)) (c_1199 46) := ae_fr hrl2 (fun j => (hF_114 (A + 3) j (fun q => q.elim (fun h => absurd h.1 (np hA rfl rfl)) (fun q => q.elim (fun h => absurd h.1 (np hA rfl rfl)) (fun h => absurd h.1 (np hA rfl rfl))))).trans ((hF_89 (A + 3) j (fun h => absurd h.1 (np hA rfl rfl))).trans (hF_29 (A + 3) j (fun h => absurd h.1 (np hA rfl rfl))))) (fun j => (hF_1201 46 j (fun h => absurd h.1 (nn rfl))).trans ((hF_1192 46 j (fun h => absurd h.1 (nn rfl))).trans (hF_1185 46 j (fun h => absurd h.1 (nn rfl)))))
                refine v_cv rfl rfl rfl rfl (by decide) ⟨⟨rfl, rfl⟩, by decide, rfl⟩ (Nat.le_of_ble_eq_true rfl) (Nat.le_of_ble_eq_true rfl) (L_33a_2 (m := c_112) (e1 := e1) (jr := jr) (st := st) (si := si) (du := du) (F := F) (H := H) hI_1200 hI_113 hI_1038 hA (by omega) ((hid kn_1204)) ((hid kn_1205)) ((hid kn_1030)) ((hid kn_1208)) ((hid kn_1034)) ((hid kn_1211)) ((hid kn_1025)) ((hid kn_1212)) ((hid kn_1215)) ((hid kn_1218)) (fun j => ((hF_114 2 j (fun q => q.elim (fun h => absurd h.1 (nn rfl)) (fun q => q.elim (fun h => absurd h.1 (nn rfl)) (fun h => absurd h.1 (nn rfl))))).trans ((hF_89 2 j (fun h => absurd h.1 (nn rfl))).trans ((hF_29 2 j (fun h => absurd h.1 (nn rfl))).trans (hFm 2 j (fun q => q.elim (fun h => absurd h.1 (nn rfl)) (fun q => q.elim (fun h => absurd h.1 (nn rfl)) (fun q => q.elim (fun h => absurd h.1 (nn rfl)) (fun q => q.elim (fun h => absurd h.1 (pn0 hA rfl)) (fun q => q.elim (fun h => absurd h.1 (pn0 hA rfl)) (fun q => q.elim (fun h => absurd h.1 (pn0 hA rfl)) (fun q => q.elim (fun h => absurd h.1 (pn0 hA rfl)) (fun q => q.elim (fun h => absurd h (pn hA rfl rfl)) (fun q => q.elim (fun h => absurd h (pn hA rfl rfl)) (fun q => q.elim (fun h => absurd h (pn hA rfl rfl)) (fun q => q.elim (fun h => absurd h.1 (pn0 hA rfl)) (fun q => q.elim (fun h => absurd h.1 (pn0 hA rfl)) (fun q => q.elim (fun h => absurd h (pn hA rfl rfl)) (fun h => absurd h.1 (pn hA rfl rfl))))))))))))))))))).trans (hF j)) (fun j => ((hF_1201 43 j (fun h => absurd h.1 (nn rfl))).trans ((hF_1192 43 j (fun h => absurd h.1 (nn rfl))).trans ((hF_1185 43 j (fun h => absurd h.1 (nn rfl))).trans (hFc 43 j (fun q => q.elim (fun h => absurd h.1 (nn rfl)) (fun q => q.elim (fun h => absurd h.1 (nn rfl)) (fun q => q.elim (fun h => absurd h.1 (nn rfl)) (fun q => q.elim (fun h => absurd h.1 (nn rfl)) (fun q => q.elim (fun h => absurd h.1 (nn rfl)) (fun q => q.elim (fun h => absurd h.1 (nn rfl)) (fun q => q.elim (fun h => absurd h.1 (nn rfl)) (fun q => q.elim (fun h => absurd h (nn rfl)) (fun q => q.elim (fun h => absurd h (nn rfl)) (fun h => absurd h (nn rfl))))))))))))))).trans (hH j)) hU (by unfold Rt; omega) (ae_le hA_1230 (by omega)) (ae_le hA_1231 (by omega)) (ae_le hA_1232 (by omega)) hG_1040 (fun c_1233 hI_1234 hF_1235 hR_1237 h_1238 h_1239 h_1240 h_1241 hA_1242 hA_1243 hA_1244 => ?_))
                refine bk_inl ?_
                have h_1245 := ir_41_16 hI_1234
                have h_1246 := ir_41_17 hI_1234
                have h_1247 := ir_41_18 hI_1234
                have h_1248 := ir_41_19 hI_1234
                refine q_aload_n rfl rfl ?_
                refine v_bip rfl (by decide) ?_
                have kn_1249 : Hid (c_1037 1 1 = e1) := (hF_1039 1 1 (fun q => q.elim (fun h => absurd h.2 (ni rfl)) (fun q => q.elim (fun h => absurd h.2 (ni rfl)) (fun q => q.elim (fun h => absurd h.2 (ni rfl)) (fun q => q.elim (fun h => absurd h.1 (pn0 hA rfl)) (fun q => q.elim (fun h => absurd h.1 (pn0 hA rfl)) (fun q => q.elim (fun h => absurd h.1 (pn0 hA rfl)) (fun q => q.elim (fun h => absurd h.1 (pn0 hA rfl)) (fun q => q.elim (fun h => absurd h (pn hA rfl rfl)) (fun q => q.elim (fun h => absurd h (pn hA rfl rfl)) (fun h => absurd h (pn hA rfl rfl)))))))))))).trans (hid kn_1204)
                have kn_1250 : Hid (c_1233 41 3 = e1) := (hF_1235 41 3 (fun q => q.elim (fun h => absurd h.2 (ni rfl)) (fun q => q.elim (fun h => absurd h.2 (ni rfl)) (fun q => q.elim (fun h => absurd h.2 (ni rfl)) (fun q => q.elim (fun h => absurd h.2 (ni rfl)) (fun q => q.elim (fun h => absurd h.2 (ni rfl)) (fun q => q.elim (fun h => absurd h.2 (ni rfl)) (fun q => q.elim (fun h => absurd h.2 (ni rfl)) (fun q => q.elim (fun h => absurd h (nn rfl)) (fun q => q.elim (fun h => absurd h (nn rfl)) (fun h => absurd h (nn rfl)))))))))))).trans (hid kn_1205)
                have h_1251 := ir_1_2 hI_1038
                refine v_cv rfl rfl rfl rfl (by decide) ⟨⟨rfl, rfl⟩, by decide, rfl⟩ (Nat.le_of_ble_eq_true rfl) (Nat.le_of_ble_eq_true rfl) (L_11_9 (m := c_1037) (e1 := e1) (a9 := c_1037 1 2) (F := F) (H := H) hI_1234 hI_1038 hI_1043 ((hid kn_1249)) ((hid kn_1250)) (rfl) (fun j => ((hF_1039 2 j (fun q => q.elim (fun h => absurd h.1 (nn rfl)) (fun q => q.elim (fun h => absurd h.1 (nn rfl)) (fun q => q.elim (fun h => absurd h.1 (nn rfl)) (fun q => q.elim (fun h => absurd h.1 (pn0 hA rfl)) (fun q => q.elim (fun h => absurd h.1 (pn0 hA rfl)) (fun q => q.elim (fun h => absurd h.1 (pn0 hA rfl)) (fun q => q.elim (fun h => absurd h.1 (pn0 hA rfl)) (fun q => q.elim (fun h => absurd h (pn hA rfl rfl)) (fun q => q.elim (fun h => absurd h (pn hA rfl rfl)) (fun h => absurd h (pn hA rfl rfl)))))))))))).trans ((hF_114 2 j (fun q => q.elim (fun h => absurd h.1 (nn rfl)) (fun q => q.elim (fun h => absurd h.1 (nn rfl)) (fun h => absurd h.1 (nn rfl))))).trans ((hF_89 2 j (fun h => absurd h.1 (nn rfl))).trans ((hF_29 2 j (fun h => absurd h.1 (nn rfl))).trans (hFm 2 j (fun q => q.elim (fun h => absurd h.1 (nn rfl)) (fun q => q.elim (fun h => absurd h.1 (nn rfl)) (fun q => q.elim (fun h => absurd h.1 (nn rfl)) (fun q => q.elim (fun h => absurd h.1 (pn0 hA rfl)) (fun q => q.elim (fun h => absurd h.1 (pn0 hA rfl)) (fun q => q.elim (fun h => absurd h.1 (pn0 hA rfl)) (fun q => q.elim (fun h => absurd h.1 (pn0 hA rfl)) (fun q => q.elim (fun h => absurd h (pn hA rfl rfl)) (fun q => q.elim (fun h => absurd h (pn hA rfl rfl)) (fun q => q.elim (fun h => absurd h (pn hA rfl rfl)) (fun q => q.elim (fun h => absurd h.1 (pn0 hA rfl)) (fun q => q.elim (fun h => absurd h.1 (pn0 hA rfl)) (fun q => q.elim (fun h => absurd h (pn hA rfl rfl)) (fun h => absurd h.1 (pn hA rfl rfl)))))))))))))))))))).trans (hF j)) (fun j => ((hF_1235 43 j (fun q => q.elim (fun h => absurd h.1 (nn rfl)) (fun q => q.elim (fun h => absurd h.1 (nn rfl)) (fun q => q.elim (fun h => absurd h.1 (nn rfl)) (fun q => q.elim (fun h => absurd h.1 (nn rfl)) (fun q => q.elim (fun h => absurd h.1 (nn rfl)) (fun q => q.elim (fun h => absurd h.1 (nn rfl)) (fun q => q.elim (fun h => absurd h.1 (nn rfl)) (fun q => q.elim (fun h => absurd h (nn rfl)) (fun q => q.elim (fun h => absurd h (nn rfl)) (fun h => absurd h (nn rfl)))))))))))).trans ((hF_1201 43 j (fun h => absurd h.1 (nn rfl))).trans ((hF_1192 43 j (fun h => absurd h.1 (nn rfl))).trans ((hF_1185 43 j (fun h => absurd h.1 (nn rfl))).trans (hFc 43 j (fun q => q.elim (fun h => absurd h.1 (nn rfl)) (fun q => q.elim (fun h => absurd h.1 (nn rfl)) (fun q => q.elim (fun h => absurd h.1 (nn rfl)) (fun q => q.elim (fun h => absurd h.1 (nn rfl)) (fun q => q.elim (fun h => absurd h.1 (nn rfl)) (fun q => q.elim (fun h => absurd h.1 (nn rfl)) (fun q => q.elim (fun h => absurd h.1 (nn rfl)) (fun q => q.elim (fun h => absurd h (nn rfl)) (fun q => q.elim (fun h => absurd h (nn rfl)) (fun h => absurd h (nn rfl)))))))))))))))).trans (hH j)) hU hR_1237 hG_1045 (fun c_1252 hI_1253 hF_1254 hR_1256 h_1257 => ?_))
                refine bk_inl ?_
                refine v_iinc (v := v + 1) rfl rfl (by decide) (by omega) ?_
                refine q_goto (t := 44) rfl (by decide) ?_
                refine q_aload_n rfl rfl ?_
                refine v_cv rfl rfl rfl rfl (by decide) ⟨⟨rfl, rfl⟩, by decide, rfl⟩ (Nat.le_of_ble_eq_true rfl) (Nat.le_of_ble_eq_true rfl) ?_
                refine q_aload_n rfl rfl ?_
                have h_1258 := ir_41_5 hI_1253
                have h_1259 := ir_41_4 hI_1253
                have h_1260 := ir_41_6 hI_1253
                have h_1261 := rt_bad hR_1256 (by omega)
                have hrb_hR_1256 := rt_bad hR_1256 (by omega)
                refine v_gi (z := 5) (v := c_1042 1 5) rfl rfl rfl (by decide) rfl rfl hrb_hR_1256.2.1 ?_
                refine q_iconst rfl ?_
                refine v_ic_ne_t (t := 12) rfl (by decide) (by omega) ?_
                refine q_iconst rfl ?_
                refine v_zret rfl rfl (by decide) ?_
                refine bk_inl ?_
                refine v_if_eq_t (t := 136) rfl (by decide) (by decide) ?_
                refine Wp_ls [(0, .ref 41), (1, vi a1)] (lsub_cons rfl (lsub_cons rfl lsub_nil)) ?_
                have h_1262 : c_1252 41 5 = c_1042 1 5 := hrb_hR_1256.2.1
                have h_1263 : c_1252 41 6 = c_1042 1 4 := hrb_hR_1256.2.2.2
                have kn_1264 : Hid (c_1252 41 16 = c_1233 41 16) := hF_1254 41 16 (fun q => q.elim (fun h => absurd h.2 (ni rfl)) (fun q => q.elim (fun h => absurd h.2 (ni rfl)) (fun h => absurd h.2 (ni rfl))))
                have h_1265 : c_1252 41 16 = c_1233 41 16 := (hid kn_1264)
                have kn_1266 : Hid (c_1252 41 17 = c_1233 41 17) := hF_1254 41 17 (fun q => q.elim (fun h => absurd h.2 (ni rfl)) (fun q => q.elim (fun h => absurd h.2 (ni rfl)) (fun h => absurd h.2 (ni rfl))))
                have h_1267 : c_1252 41 17 = c_1233 41 17 := (hid kn_1266)
                have kn_1268 : Hid (c_1252 41 18 = c_1233 41 18) := hF_1254 41 18 (fun q => q.elim (fun h => absurd h.2 (ni rfl)) (fun q => q.elim (fun h => absurd h.2 (ni rfl)) (fun h => absurd h.2 (ni rfl))))
                have h_1269 : c_1252 41 18 = c_1233 41 18 := (hid kn_1268)
                have kn_1270 : Hid (c_1252 41 19 = c_1233 41 19) := hF_1254 41 19 (fun q => q.elim (fun h => absurd h.2 (ni rfl)) (fun q => q.elim (fun h => absurd h.2 (ni rfl)) (fun h => absurd h.2 (ni rfl))))
                have h_1271 : c_1252 41 19 = c_1233 41 19 := (hid kn_1270)
                have h_1272 : c_1252 41 16 = c_1233 41 16 := (hid kn_1264)
                have h_1273 : c_1252 41 17 = c_1233 41 17 := (hid kn_1266)
                have h_1274 : c_1252 41 18 = c_1233 41 18 := (hid kn_1268)
                exact K c_1252  hI_1253 (fun a j hm => (hF_1254 a j (fun q => q.elim (fun h => hm (Or.inl h)) (fun q => q.elim (fun h => hm (Or.inr (Or.inl h))) (fun h => hm (Or.inr (Or.inr (Or.inl h))))))).trans ((hF_1235 a j (fun q => q.elim (fun h => hm (Or.inl h)) (fun q => q.elim (fun h => hm (Or.inr (Or.inl h))) (fun q => q.elim (fun h => hm (Or.inr (Or.inr (Or.inl h)))) (fun q => q.elim (fun h => hm (Or.inr (Or.inr (Or.inr (Or.inl h))))) (fun q => q.elim (fun h => hm (Or.inr (Or.inr (Or.inr (Or.inr (Or.inl h)))))) (fun q => q.elim (fun h => hm (Or.inr (Or.inr (Or.inr (Or.inr (Or.inr (Or.inl h))))))) (fun q => q.elim (fun h => hm (Or.inr (Or.inr (Or.inr (Or.inr (Or.inr (Or.inr (Or.inl h)))))))) (fun q => q.elim (fun h => hm (Or.inr (Or.inr (Or.inr (Or.inr (Or.inr (Or.inr (Or.inr (Or.inl h))))))))) (fun q => q.elim (fun h => hm (Or.inr (Or.inr (Or.inr (Or.inr (Or.inr (Or.inr (Or.inr (Or.inr (Or.inl h)))))))))) (fun h => hm (Or.inr (Or.inr (Or.inr (Or.inr (Or.inr (Or.inr (Or.inr (Or.inr (Or.inr h)))))))))))))))))))).trans ((hF_1201 a j (fun h => hm (Or.inl h))).trans ((hF_1192 a j (fun h => hm (Or.inl h))).trans ((hF_1185 a j (fun h => hm (Or.inl h))).trans (hFc a j (fun q => q.elim (fun h => hm (Or.inl h)) (fun q => q.elim (fun h => hm (Or.inr (Or.inl h))) (fun q => q.elim (fun h => hm (Or.inr (Or.inr (Or.inl h)))) (fun q => q.elim (fun h => hm (Or.inr (Or.inr (Or.inr (Or.inl h))))) (fun q => q.elim (fun h => hm (Or.inr (Or.inr (Or.inr (Or.inr (Or.inl h)))))) (fun q => q.elim (fun h => hm (Or.inr (Or.inr (Or.inr (Or.inr (Or.inr (Or.inl h))))))) (fun q => q.elim (fun h => hm (Or.inr (Or.inr (Or.inr (Or.inr (Or.inr (Or.inr (Or.inl h)))))))) (fun q => q.elim (fun h => hm (Or.inr (Or.inr (Or.inr (Or.inr (Or.inr (Or.inr (Or.inr (Or.inl h))))))))) (fun q => q.elim (fun h => hm (Or.inr (Or.inr (Or.inr (Or.inr (Or.inr (Or.inr (Or.inr (Or.inr (Or.inl h)))))))))) (fun h => hm (Or.inr (Or.inr (Or.inr (Or.inr (Or.inr (Or.inr (Or.inr (Or.inr (Or.inr h))))))))))))))))))))))))) (by unfold Rt; omega) (by omega) (fun hz => absurd hz (by omega)) (fun hz => absurd hz (by omega)) (fun hz => absurd hz (by omega))
            · refine v_ic_ne_f (t := 69) rfl (by decide) (by omega) ?_
              refine q_iconst rfl ?_
              refine q_goto (t := 70) rfl (by decide) ?_
              refine v_zret rfl rfl (by decide) ?_
              refine bk_inl ?_
              refine v_if_eq_f (t := 59) rfl (by decide) (by decide) ?_
              refine q_aload_n rfl rfl ?_
              refine q_iconst rfl ?_
              refine q_iload_n rfl rfl ?_
              refine v_cv rfl rfl rfl rfl (by decide) ⟨⟨rfl, rfl⟩, by decide, rfl⟩ (Nat.le_of_ble_eq_true rfl) (Nat.le_of_ble_eq_true rfl) ?_
              refine q_aload_n rfl rfl ?_
              refine v_gi (z := 4) (v := 0) rfl rfl rfl (by decide) rfl rfl (hz_118) ?_
              refine v_if_ne_f (t := 17) rfl (by decide) (by decide) ?_
              refine q_aload_n rfl rfl ?_
              refine q_iload_n rfl rfl ?_
              refine v_pi (z := 4) rfl rfl rfl (by decide) rfl rfl rfl (by decide) ?_
              refine q_aload_n rfl rfl ?_
              refine q_iload_n rfl rfl ?_
              refine v_pi (z := 5) rfl rfl rfl (by decide) rfl rfl rfl (by decide) ?_
              refine q_vret rfl rfl ?_
              refine bk_inl ?_
              refine q_aload_n rfl rfl ?_
              refine v_cv rfl rfl rfl rfl (by decide) ⟨⟨rfl, rfl⟩, by decide, rfl⟩ (Nat.le_of_ble_eq_true rfl) (Nat.le_of_ble_eq_true rfl) ?_
              refine q_aload_n rfl rfl ?_
              refine v_gi (z := 4) (v := 3) rfl rfl rfl (by decide) rfl rfl ((up_n (by decide)).trans (up_e rfl)) ?_
              refine v_if_ne_t (t := 11) rfl (by decide) (by decide) ?_
              refine q_iconst rfl ?_
              refine v_zret rfl rfl (by decide) ?_
              refine bk_inl ?_
              refine v_if_eq_t (t := 73) rfl (by decide) (by decide) ?_
              refine q_aload_n rfl rfl ?_
              refine q_ldc_s rfl rfl rfl (by decide) ?_
              refine v_cv rfl rfl rfl rfl (by decide) ⟨⟨rfl, rfl⟩, by decide, rfl⟩ (Nat.le_of_ble_eq_true rfl) (Nat.le_of_ble_eq_true rfl) ?_
              refine q_aload_n rfl rfl ?_
              refine v_cv rfl rfl rfl rfl (by decide) ⟨⟨rfl, rfl⟩, by decide, rfl⟩ (Nat.le_of_ble_eq_true rfl) (Nat.le_of_ble_eq_true rfl) ?_
              refine q_aload_n rfl rfl ?_
              refine v_gi (z := 4) (v := 3) rfl rfl rfl (by decide) rfl rfl ((up_n (by decide)).trans (up_e rfl)) ?_
              refine v_if_ne_t (t := 11) rfl (by decide) (by decide) ?_
              refine q_iconst rfl ?_
              refine v_zret rfl rfl (by decide) ?_
              refine bk_inl ?_
              refine v_if_eq_t (t := 25) rfl (by decide) (by decide) ?_
              refine q_vret rfl rfl ?_
              refine bk_inl ?_
              refine v_iinc (v := v + 1) rfl rfl (by decide) (by omega) ?_
              refine q_goto (t := 6) rfl (by decide) ?_
              refine q_iload_n rfl rfl ?_
              refine v_bip rfl (by decide) ?_
              refine v_ic_gt_f (t := 85) rfl (by decide) (by omega) ?_
              refine q_aload_n rfl rfl ?_
              refine v_cv rfl rfl rfl rfl (by decide) ⟨⟨rfl, rfl⟩, by decide, rfl⟩ (Nat.le_of_ble_eq_true rfl) (Nat.le_of_ble_eq_true rfl) ?_
              refine q_aload_n rfl rfl ?_
              refine v_cv rfl rfl rfl rfl (by decide) ⟨⟨rfl, rfl⟩, by decide, rfl⟩ (Nat.le_of_ble_eq_true rfl) (Nat.le_of_ble_eq_true rfl) ?_
              refine q_aload_n rfl rfl ?_
              refine v_gi (z := 4) (v := 3) rfl rfl rfl (by decide) rfl rfl ((up_n (by decide)).trans (up_e rfl)) ?_
              refine v_if_ne_t (t := 11) rfl (by decide) (by decide) ?_
              refine q_iconst rfl ?_
              refine v_zret rfl rfl (by decide) ?_
              refine bk_inl ?_
              refine v_if_eq_t (t := 22) rfl (by decide) (by decide) ?_
              refine q_iconst rfl ?_
              refine v_zret rfl rfl (by decide) ?_
              refine bk_inl ?_
              refine v_if_eq_t (t := 85) rfl (by decide) (by decide) ?_
              refine q_vret rfl rfl ?_
              have hI_1275 := iw_1_4 (v := 3) hI_113 ⟨by decide, by decide⟩
              have hI_1276 := iw_1_5 (v := (nx F e1 a)) hI_1275 ⟨by omega, by omega⟩
              intro hE_1277
              have hW : Wd P Q P P (up (up c_112 1 4 3) 1 5 (nx F e1 a)) = Wd P Q P P m9 := (Prod.mk.inj (Prod.mk.inj hE_1277).2).1
              have h_1278 := ir_1_4 hJ9
              have h_1279 : m9 1 4 = 3 := wd_fv (z := 4) 4 rfl hW rfl rfl rfl rfl (by decide) ((up_n (by decide)).trans (up_e rfl)) ⟨by omega, by omega⟩ ⟨by omega, by omega⟩
              have h_1280 := ir_1_2 hJ9
              have h_1281 : m9 1 2 = (ln F e1 (nx F e1 a)) := wd_fv (z := 2) 2 rfl hW rfl rfl rfl rfl (by decide) ((up_n (by decide)).trans ((up_n (by decide)).trans (hz_117))) ⟨by omega, by omega⟩ ⟨by omega, by omega⟩
              have h_1282 := ir_1_5 hJ9
              have h_1283 : m9 1 5 = (nx F e1 a) := wd_fv (z := 5) 5 rfl hW rfl rfl rfl rfl (by decide) (up_e rfl) ⟨by omega, by omega⟩ ⟨by omega, by omega⟩
              have kn_1284 : Hid (c_27 A 0 = jr) := (hF_29 A 0 (fun h => absurd h.1 (np0 hA rfl))).trans (hg_jr)
              have kn_1285 : Hid (c_87 A 0 = jr) := (hF_89 A 0 (fun h => absurd h.1 (np0 hA rfl))).trans (hid kn_1284)
              have kn_1286 : Hid (c_112 A 0 = jr) := (hF_114 A 0 (fun q => q.elim (fun h => absurd h.1 (np0 hA rfl)) (fun q => q.elim (fun h => absurd h.1 (np0 hA rfl)) (fun h => absurd h.1 (np0 hA rfl))))).trans (hid kn_1285)
              have h_1287 := ir_p0_0 hJ9 hA
              have h_1288 : m9 A 0 = jr := wd_fv (z := 0) 0 rfl hW (ck_p0 hA) (ck_p0 hA) rfl rfl (by omega) ((up_c (np0 hA rfl)).trans ((up_c (np0 hA rfl)).trans (hid kn_1286))) ⟨by omega, by omega⟩ ⟨by omega, by omega⟩
              have kn_1289 : Hid (c_27 A 1 = st) := (hF_29 A 1 (fun h => absurd h.1 (np0 hA rfl))).trans (hg_st)
              have kn_1290 : Hid (c_87 A 1 = st) := (hF_89 A 1 (fun h => absurd h.1 (np0 hA rfl))).trans (hid kn_1289)
              have kn_1291 : Hid (c_112 A 1 = st) := (hF_114 A 1 (fun q => q.elim (fun h => absurd h.1 (np0 hA rfl)) (fun q => q.elim (fun h => absurd h.1 (np0 hA rfl)) (fun h => absurd h.1 (np0 hA rfl))))).trans (hid kn_1290)
              have h_1292 := ir_p0_1 hJ9 hA
              have h_1293 : m9 A 1 = st := wd_fv (z := 1) 1 rfl hW (ck_p0 hA) (ck_p0 hA) rfl rfl (by omega) ((up_c (np0 hA rfl)).trans ((up_c (np0 hA rfl)).trans (hid kn_1291))) ⟨by omega, by omega⟩ ⟨by omega, by omega⟩
              have h_1294 := ir_p0_2 hJ9 hA
              have h_1295 : m9 A 2 = si := wd_fv (z := 2) 2 rfl hW (ck_p0 hA) (ck_p0 hA) rfl rfl (by omega) ((up_c (np0 hA rfl)).trans ((up_c (np0 hA rfl)).trans (hid kn_1025))) ⟨by omega, by omega⟩ ⟨by omega, by omega⟩
              have kn_1296 : Hid (c_27 A 3 = du) := (hF_29 A 3 (fun h => absurd h.1 (np0 hA rfl))).trans (hg_du)
              have kn_1297 : Hid (c_87 A 3 = du) := (hF_89 A 3 (fun h => absurd h.1 (np0 hA rfl))).trans (hid kn_1296)
              have kn_1298 : Hid (c_112 A 3 = du) := (hF_114 A 3 (fun q => q.elim (fun h => absurd h.1 (np0 hA rfl)) (fun q => q.elim (fun h => absurd h.1 (np0 hA rfl)) (fun h => absurd h.1 (np0 hA rfl))))).trans (hid kn_1297)
              have h_1299 := ir_p0_3 hJ9 hA
              have h_1300 : m9 A 3 = du := wd_fv (z := 3) 3 rfl hW (ck_p0 hA) (ck_p0 hA) rfl rfl (by omega) ((up_c (np0 hA rfl)).trans ((up_c (np0 hA rfl)).trans (hid kn_1298))) ⟨by omega, by omega⟩ ⟨by omega, by omega⟩
              refine q_aload_n rfl rfl ?_
              refine v_cv rfl rfl rfl rfl (by decide) ⟨⟨rfl, rfl⟩, by decide, rfl⟩ (Nat.le_of_ble_eq_true rfl) (Nat.le_of_ble_eq_true rfl) ?_
              refine q_aload_n rfl rfl ?_
              refine v_gi (z := 5) (v := (-1)) rfl rfl rfl (by decide) rfl rfl (hc_1) ?_
              refine q_iconst rfl ?_
              refine v_ic_ne_f (t := 12) rfl (by decide) (by decide) ?_
              refine q_iconst rfl ?_
              refine q_goto (t := 13) rfl (by decide) ?_
              refine v_zret rfl rfl (by decide) ?_
              refine bk_inl ?_
              refine v_if_eq_f (t := 136) rfl (by decide) (by decide) ?_
              refine q_aload_n rfl rfl ?_
              refine v_cv rfl rfl rfl rfl (by decide) ⟨⟨rfl, rfl⟩, by decide, rfl⟩ (Nat.le_of_ble_eq_true rfl) (Nat.le_of_ble_eq_true rfl) ?_
              refine q_aload_n rfl rfl ?_
              have kn_1301 : Hid (c2 41 3 = e1) := (hFc 41 3 (fun q => q.elim (fun h => absurd h.2 (ni rfl)) (fun q => q.elim (fun h => absurd h.2 (ni rfl)) (fun q => q.elim (fun h => absurd h.2 (ni rfl)) (fun q => q.elim (fun h => absurd h.2 (ni rfl)) (fun q => q.elim (fun h => absurd h.2 (ni rfl)) (fun q => q.elim (fun h => absurd h.2 (ni rfl)) (fun q => q.elim (fun h => absurd h.2 (ni rfl)) (fun q => q.elim (fun h => absurd h (nn rfl)) (fun q => q.elim (fun h => absurd h (nn rfl)) (fun h => absurd h (nn rfl)))))))))))).trans (hr_e1)
              have h_1302 : -2147483648 ≤ (H (nx F e1 a)) ∧ (H (nx F e1 a)) ≤ 2147483647 := by rw [← hH (nx F e1 a)]; exact ir_43 hI (nx F e1 a)
              have h_1303 := hU (nx F e1 a) (by omega) (by omega)
              have h_1304 := hb_or (b := H) (e := e1) (r := (nx F e1 a))
              have h_1305 := hb_bd (b := H) (e := e1) (r := (nx F e1 a)) (lo := -2147483648) (hi := 2147483647) ⟨by omega, by omega⟩ (by decide)
              refine v_cv rfl rfl rfl rfl (by decide) ⟨⟨rfl, rfl⟩, by decide, rfl⟩ (Nat.le_of_ble_eq_true rfl) (Nat.le_of_ble_eq_true rfl) (f_154 (e1 := e1) (a9 := a) (B := H) (r8 := (nx F e1 a)) (r := (hb H e1 (nx F e1 a))) hI2 ((hid kn_1301)) ((hr_a)) (fun j => (hFc 43 j (fun q => q.elim (fun h => absurd h.1 (nn rfl)) (fun q => q.elim (fun h => absurd h.1 (nn rfl)) (fun q => q.elim (fun h => absurd h.1 (nn rfl)) (fun q => q.elim (fun h => absurd h.1 (nn rfl)) (fun q => q.elim (fun h => absurd h.1 (nn rfl)) (fun q => q.elim (fun h => absurd h.1 (nn rfl)) (fun q => q.elim (fun h => absurd h.1 (nn rfl)) (fun q => q.elim (fun h => absurd h (nn rfl)) (fun q => q.elim (fun h => absurd h (nn rfl)) (fun h => absurd h (nn rfl)))))))))))).trans (hH j)) ((nx_tr hU (by omega) (by omega)).trans (rfl)) rfl (fun c_1306 hI_1307 hF_1308 h_1309 => ?_))
              refine bk_inl ?_
              refine q_pop rfl rfl ?_
              refine q_aload_n rfl rfl ?_
              refine v_gi (z := 4) (v := (nx F e1 a)) rfl rfl rfl (by decide) rfl rfl (h_1309) ?_
              refine q_aload_n rfl rfl ?_
              have kn_1310 : Hid (c_1306 41 3 = e1) := (hF_1308 41 3 (fun h => absurd h.2 (ni rfl))).trans (hid kn_1301)
              refine v_gi (z := 3) (v := e1) rfl rfl rfl (by decide) rfl rfl (hid kn_1310) ?_
              refine v_ic_ge_f (t := 20) rfl (by decide) (by omega) ?_
              refine q_iconst rfl ?_
              refine q_goto (t := 21) rfl (by decide) ?_
              refine v_zret rfl rfl (by decide) ?_
              refine bk_inl ?_
              refine v_if_eq_f (t := 136) rfl (by decide) (by decide) ?_
              refine q_aload_n rfl rfl ?_
              have h_1311 := wv_bd (b := F) (r := (nx F e1 a)) (l := (ln F e1 (nx F e1 a))) (fun j h1 h2 => ⟨(ln_in (e := e1) (a := (nx F e1 a)) h1 (by omega)).1, (ln_in (e := e1) (a := (nx F e1 a)) h1 (by omega)).2.1⟩)
              have h_1312 := wr8_2 (b := F) (r := (nx F e1 a)) (l := (ln F e1 (nx F e1 a))) (by omega) (fun j h1 h2 => ⟨(ln_in (e := e1) (a := (nx F e1 a)) h1 (by omega)).1, (ln_in (e := e1) (a := (nx F e1 a)) h1 (by omega)).2.1⟩) (by omega)
              refine v_cv rfl rfl rfl rfl (by decide) ⟨⟨rfl, rfl⟩, by decide, rfl⟩ (Nat.le_of_ble_eq_true rfl) (Nat.le_of_ble_eq_true rfl) (f_157 (e1 := e1) (a9 := (nx F e1 a)) (B := H) (r8 := (nx F e1 a)) (L8 := (ln F e1 (nx F e1 a))) (W8 := (wv F (nx F e1 a) (ln F e1 (nx F e1 a)))) hI_1307 ((hid kn_1310)) ((h_1309)) (fun j => ((hF_1308 43 j (fun h => absurd h.1 (nn rfl))).trans (hFc 43 j (fun q => q.elim (fun h => absurd h.1 (nn rfl)) (fun q => q.elim (fun h => absurd h.1 (nn rfl)) (fun q => q.elim (fun h => absurd h.1 (nn rfl)) (fun q => q.elim (fun h => absurd h.1 (nn rfl)) (fun q => q.elim (fun h => absurd h.1 (nn rfl)) (fun q => q.elim (fun h => absurd h.1 (nn rfl)) (fun q => q.elim (fun h => absurd h.1 (nn rfl)) (fun q => q.elim (fun h => absurd h (nn rfl)) (fun q => q.elim (fun h => absurd h (nn rfl)) (fun h => absurd h (nn rfl))))))))))))).trans (hH j)) ((nx_tr hU (by omega) (by omega)).trans ((nx_z (by omega)))) ((ln_tr hU (by omega) (by omega)).trans (rfl)) ((wv_tr hU (by omega) (by omega) (fun j h1 h2 => ⟨(ln_in (e := e1) (a := (nx F e1 a)) h1 (by omega)).1, (ln_in (e := e1) (a := (nx F e1 a)) h1 (by omega)).2.1⟩)).trans (rfl)) (fun c_1313 hI_1314 hF_1315 hz_1316 => ?_))
              refine bk_inl ?_
              refine q_istore_n rfl (by decide) ?_
              refine q_iload_n rfl rfl ?_
              refine q_call rfl rfl rfl rfl ?_
              refine q_iload_n rfl rfl ?_
              refine q_ldc_s rfl rfl rfl (by decide) ?_
              refine q_call rfl rfl rfl rfl (s_158_16 ?_)
              refine bk_inl ?_
              refine v_ic_eq_f (t := 36) rfl (by decide) (by omega) ?_
              refine q_iload_n rfl rfl ?_
              refine q_ldc_s rfl rfl rfl (by decide) ?_
              refine q_call rfl rfl rfl rfl (s_158_17 ?_)
              refine bk_inl ?_
              refine v_ic_eq_f (t := 36) rfl (by decide) (by omega) ?_
              refine q_iload_n rfl rfl ?_
              refine q_ldc_s rfl rfl rfl (by decide) ?_
              refine q_call rfl rfl rfl rfl (s_158_18 ?_)
              refine bk_inl ?_
              refine v_ic_eq_t (t := 36) rfl (by decide) (by omega) ?_
              refine q_iconst rfl ?_
              refine q_goto (t := 41) rfl (by decide) ?_
              refine v_zret rfl rfl (by decide) ?_
              refine bk_inl ?_
              refine v_if_ne_t (t := 82) rfl (by decide) (by decide) ?_
              refine q_iload_n rfl rfl ?_
              refine v_bip rfl (by decide) ?_
              refine v_ic_eq_f (t := 96) rfl (by decide) (by omega) ?_
              refine q_aload_n rfl rfl ?_
              refine q_iload_n rfl rfl ?_
              refine v_cv rfl rfl rfl rfl (by decide) ⟨⟨rfl, rfl⟩, by decide, rfl⟩ (Nat.le_of_ble_eq_true rfl) (Nat.le_of_ble_eq_true rfl) ?_
              refine q_iload_n rfl rfl ?_
              refine q_ldc_s rfl rfl rfl (by decide) ?_
              refine q_call rfl rfl rfl rfl (s_158_16 ?_)
              refine bk_inl ?_
              refine v_ic_ne_t (t := 26) rfl (by decide) (by omega) ?_
              refine q_iload_n rfl rfl ?_
              refine q_ldc_s rfl rfl rfl (by decide) ?_
              refine q_call rfl rfl rfl rfl (s_158_17 ?_)
              refine bk_inl ?_
              refine v_ic_ne_t (t := 51) rfl (by decide) (by omega) ?_
              refine q_iload_n rfl rfl ?_
              refine q_ldc_s rfl rfl rfl (by decide) ?_
              refine q_call rfl rfl rfl rfl (s_158_18 ?_)
              refine bk_inl ?_
              refine v_ic_ne_f (t := 72) rfl (by decide) (by omega) ?_
              refine q_aload_n rfl rfl ?_
              have kn_1317 : Hid (c_1306 41 18 = si) := (hF_1308 41 18 (fun h => absurd h.2 (ni rfl))).trans (hr_si)
              have kn_1318 : Hid (c_1313 41 18 = si) := (hF_1315 41 18 (fun h => absurd h.2 (ni rfl))).trans (hid kn_1317)
              refine v_gi (z := 18) (v := si) rfl rfl rfl (by decide) rfl rfl (hid kn_1318) ?_
              refine q_iconst rfl ?_
              refine v_ic_ne_f (t := 72) rfl (by decide) (by omega) ?_
              refine q_iconst rfl ?_
              refine q_goto (t := 73) rfl (by decide) ?_
              refine v_zret rfl rfl (by decide) ?_
              refine bk_inl ?_
              refine v_if_eq_f (t := 105) rfl (by decide) (by decide) ?_
              refine q_aload_n rfl rfl ?_
              refine q_iconst rfl ?_
              refine q_aload_n rfl rfl ?_
              refine v_gi (z := 4) (v := (nx F e1 a)) rfl rfl rfl (by decide) rfl rfl (hz_1316) ?_
              refine v_cv rfl rfl rfl rfl (by decide) ⟨⟨rfl, rfl⟩, by decide, rfl⟩ (Nat.le_of_ble_eq_true rfl) (Nat.le_of_ble_eq_true rfl) ?_
              refine q_aload_n rfl rfl ?_
              have kn_1319 : Hid (c_1306 41 5 = (-1)) := (hF_1308 41 5 (fun h => absurd h.2 (ni rfl))).trans (hc_1)
              have kn_1320 : Hid (c_1313 41 5 = (-1)) := (hF_1315 41 5 (fun h => absurd h.2 (ni rfl))).trans (hid kn_1319)
              refine v_gi (z := 5) (v := (-1)) rfl rfl rfl (by decide) rfl rfl (hid kn_1320) ?_
              refine q_iconst rfl ?_
              refine v_ic_eq_t (t := 9) rfl (by decide) (by decide) ?_
              refine q_aload_n rfl rfl ?_
              refine q_iload_n rfl rfl ?_
              refine v_pi (z := 5) rfl rfl rfl (by decide) rfl rfl rfl (by decide) ?_
              refine q_aload_n rfl rfl ?_
              refine q_iload_n rfl rfl ?_
              refine v_pi (z := 6) rfl rfl rfl (by decide) rfl rfl rfl (by decide) ?_
              refine q_vret rfl rfl ?_
              refine bk_inl ?_
              refine q_aload_n rfl rfl ?_
              refine v_cv rfl rfl rfl rfl (by decide) ⟨⟨rfl, rfl⟩, by decide, rfl⟩ (Nat.le_of_ble_eq_true rfl) (Nat.le_of_ble_eq_true rfl) ?_
              refine q_aload_n rfl rfl ?_
              refine v_gi (z := 5) (v := (nx F e1 a)) rfl rfl rfl (by decide) rfl rfl ((up_n (by decide)).trans (up_e rfl)) ?_
              refine q_iconst rfl ?_
              refine v_ic_ne_t (t := 12) rfl (by decide) (by omega) ?_
              refine q_iconst rfl ?_
              refine v_zret rfl rfl (by decide) ?_
              refine bk_inl ?_
              refine v_if_ne_f (t := 115) rfl (by decide) (by decide) ?_
              refine q_goto (t := 136) rfl (by decide) ?_
              refine Wp_ls [(0, .ref 41), (1, vi a1)] (lsub_cons rfl (lsub_cons rfl lsub_nil)) ?_
              have hI_1321 := iw_41_5 (v := (nx F e1 a)) hI_1314 ⟨by omega, by omega⟩
              have hI_1322 := iw_41_6 (v := 3) hI_1321 ⟨by decide, by decide⟩
              have h_1323 : (up (up c_1313 41 5 (nx F e1 a)) 41 6 3) 41 5 = (nx F e1 a) := ((up_n (by decide)).trans (up_e rfl))
              have h_1324 : (up (up c_1313 41 5 (nx F e1 a)) 41 6 3) 41 4 = (nx F e1 a) := ((up_n (by decide)).trans ((up_n (by decide)).trans (hz_1316)))
              have h_1325 : (up (up c_1313 41 5 (nx F e1 a)) 41 6 3) 41 6 = 3 := (up_e rfl)
              have kn_1326 : Hid (c_1306 41 16 = jr) := (hF_1308 41 16 (fun h => absurd h.2 (ni rfl))).trans (hr_jr)
              have kn_1327 : Hid (c_1313 41 16 = jr) := (hF_1315 41 16 (fun h => absurd h.2 (ni rfl))).trans (hid kn_1326)
              have h_1328 : (up (up c_1313 41 5 (nx F e1 a)) 41 6 3) 41 16 = jr := ((up_n (by decide)).trans ((up_n (by decide)).trans (hid kn_1327)))
              have kn_1329 : Hid (c_1306 41 17 = st) := (hF_1308 41 17 (fun h => absurd h.2 (ni rfl))).trans (hr_st)
              have kn_1330 : Hid (c_1313 41 17 = st) := (hF_1315 41 17 (fun h => absurd h.2 (ni rfl))).trans (hid kn_1329)
              have h_1331 : (up (up c_1313 41 5 (nx F e1 a)) 41 6 3) 41 17 = st := ((up_n (by decide)).trans ((up_n (by decide)).trans (hid kn_1330)))
              have h_1332 : (up (up c_1313 41 5 (nx F e1 a)) 41 6 3) 41 18 = si := ((up_n (by decide)).trans ((up_n (by decide)).trans (hid kn_1318)))
              have kn_1333 : Hid (c_1306 41 19 = du) := (hF_1308 41 19 (fun h => absurd h.2 (ni rfl))).trans (hr_du)
              have kn_1334 : Hid (c_1313 41 19 = du) := (hF_1315 41 19 (fun h => absurd h.2 (ni rfl))).trans (hid kn_1333)
              have h_1335 : (up (up c_1313 41 5 (nx F e1 a)) 41 6 3) 41 19 = du := ((up_n (by decide)).trans ((up_n (by decide)).trans (hid kn_1334)))
              have h_1336 : (up (up c_1313 41 5 (nx F e1 a)) 41 6 3) 41 16 = jr := ((up_n (by decide)).trans ((up_n (by decide)).trans (hid kn_1327)))
              have h_1337 : (up (up c_1313 41 5 (nx F e1 a)) 41 6 3) 41 17 = st := ((up_n (by decide)).trans ((up_n (by decide)).trans (hid kn_1330)))
              have h_1338 : (up (up c_1313 41 5 (nx F e1 a)) 41 6 3) 41 18 = si := ((up_n (by decide)).trans ((up_n (by decide)).trans (hid kn_1318)))
              exact K (up (up c_1313 41 5 (nx F e1 a)) 41 6 3)  hI_1322 (fun a j hm => (up_b (Decidable.or_iff_not_imp_left.mpr (fun h1 h2 => hm (Or.inr (Or.inr (Or.inl ⟨Decidable.not_not.mp h1, h2⟩)))))).trans ((up_b (Decidable.or_iff_not_imp_left.mpr (fun h1 h2 => hm (Or.inr (Or.inl ⟨Decidable.not_not.mp h1, h2⟩))))).trans ((hF_1315 a j (fun h => hm (Or.inl h))).trans ((hF_1308 a j (fun h => hm (Or.inl h))).trans (hFc a j (fun q => q.elim (fun h => hm (Or.inl h)) (fun q => q.elim (fun h => hm (Or.inr (Or.inl h))) (fun q => q.elim (fun h => hm (Or.inr (Or.inr (Or.inl h)))) (fun q => q.elim (fun h => hm (Or.inr (Or.inr (Or.inr (Or.inl h))))) (fun q => q.elim (fun h => hm (Or.inr (Or.inr (Or.inr (Or.inr (Or.inl h)))))) (fun q => q.elim (fun h => hm (Or.inr (Or.inr (Or.inr (Or.inr (Or.inr (Or.inl h))))))) (fun q => q.elim (fun h => hm (Or.inr (Or.inr (Or.inr (Or.inr (Or.inr (Or.inr (Or.inl h)))))))) (fun q => q.elim (fun h => hm (Or.inr (Or.inr (Or.inr (Or.inr (Or.inr (Or.inr (Or.inr (Or.inl h))))))))) (fun q => q.elim (fun h => hm (Or.inr (Or.inr (Or.inr (Or.inr (Or.inr (Or.inr (Or.inr (Or.inr (Or.inl h)))))))))) (fun h => hm (Or.inr (Or.inr (Or.inr (Or.inr (Or.inr (Or.inr (Or.inr (Or.inr (Or.inr h)))))))))))))))))))))))) (by unfold Rt; omega) (by omega) (fun hz => absurd hz (by omega)) (fun hz => absurd hz (by omega)) (fun hz => absurd hz (by omega))
          refine v_tsw_o (t := 71) rfl (by omega) (by decide) ?_
          refine q_iconst rfl ?_
          refine v_zret rfl rfl (by decide) ?_
          refine bk_inl ?_
          refine v_if_eq_t (t := 59) rfl (by decide) (by decide) ?_
          refine q_aload_n rfl rfl ?_
          refine v_cv rfl rfl rfl rfl (by decide) ⟨⟨rfl, rfl⟩, by decide, rfl⟩ (Nat.le_of_ble_eq_true rfl) (Nat.le_of_ble_eq_true rfl) ?_
          refine q_aload_n rfl rfl ?_
          refine v_gi (z := 4) (v := 0) rfl rfl rfl (by decide) rfl rfl (hz_118) ?_
          refine v_if_ne_f (t := 11) rfl (by decide) (by decide) ?_
          refine q_iconst rfl ?_
          refine q_goto (t := 12) rfl (by decide) ?_
          refine v_zret rfl rfl (by decide) ?_
          refine bk_inl ?_
          refine v_if_eq_f (t := 73) rfl (by decide) (by decide) ?_
          refine q_aload_n rfl rfl ?_
          refine q_aload_n rfl rfl ?_
          refine q_iload rfl rfl ?_
          have hw_1339 : (wd8_0 F (nx F e1 a) (ln F e1 (nx F e1 a))) = 3 := by omega
          rw [hw_1339]
          have kn_1340 : Hid (c_27 A 0 = jr) := (hF_29 A 0 (fun h => absurd h.1 (np0 hA rfl))).trans (hg_jr)
          have kn_1341 : Hid (c_87 A 0 = jr) := (hF_89 A 0 (fun h => absurd h.1 (np0 hA rfl))).trans (hid kn_1340)
          have kn_1342 : Hid (c_112 A 0 = jr) := (hF_114 A 0 (fun q => q.elim (fun h => absurd h.1 (np0 hA rfl)) (fun q => q.elim (fun h => absurd h.1 (np0 hA rfl)) (fun h => absurd h.1 (np0 hA rfl))))).trans (hid kn_1341)
          have h_1343 : c_112 A 0 = jr := (hid kn_1342)
          have kn_1344 : Hid (c_27 A 1 = st) := (hF_29 A 1 (fun h => absurd h.1 (np0 hA rfl))).trans (hg_st)
          have kn_1345 : Hid (c_87 A 1 = st) := (hF_89 A 1 (fun h => absurd h.1 (np0 hA rfl))).trans (hid kn_1344)
          have kn_1346 : Hid (c_112 A 1 = st) := (hF_114 A 1 (fun q => q.elim (fun h => absurd h.1 (np0 hA rfl)) (fun q => q.elim (fun h => absurd h.1 (np0 hA rfl)) (fun h => absurd h.1 (np0 hA rfl))))).trans (hid kn_1345)
          have h_1347 : c_112 A 1 = st := (hid kn_1346)
          have kn_1348 : Hid (c_27 A 2 = si) := (hF_29 A 2 (fun h => absurd h.1 (np0 hA rfl))).trans (hg_si)
          have kn_1349 : Hid (c_87 A 2 = si) := (hF_89 A 2 (fun h => absurd h.1 (np0 hA rfl))).trans (hid kn_1348)
          have kn_1350 : Hid (c_112 A 2 = si) := (hF_114 A 2 (fun q => q.elim (fun h => absurd h.1 (np0 hA rfl)) (fun q => q.elim (fun h => absurd h.1 (np0 hA rfl)) (fun h => absurd h.1 (np0 hA rfl))))).trans (hid kn_1349)
          have h_1351 : c_112 A 2 = si := (hid kn_1350)
          refine v_cv rfl rfl rfl (ck_p0 hA) (by omega) ⟨⟨rfl, rfl⟩, by decide, rfl⟩ (Nat.le_of_ble_eq_true rfl) (Nat.le_of_ble_eq_true rfl) (fn_of (s_33 (a2 := 3) hI_113 hA (show 0 ≤ 3 ∧ 3 ≤ 100 from by omega) (by omega) (by omega) (by omega) (fun c_1352 hI_1353 hF_1354 => ?_)))
          intro hG_1355
          refine bk_inl ?_
          refine q_aload_n rfl rfl ?_
          refine q_ldc_s rfl rfl rfl (by decide) ?_
          have h_1356 := ir_1_4 hI_1353
          refine v_cv rfl rfl rfl rfl (by decide) ⟨⟨rfl, rfl⟩, by decide, rfl⟩ (Nat.le_of_ble_eq_true rfl) (Nat.le_of_ble_eq_true rfl) (fn_of (s_11 hI_1353 (q := 9) (nt := 1) (by decide) (by decide) (by decide) (fun c_1357 hI_1358 hF_1359 => ?_)))
          intro hG_1360
          refine bk_inl ?_
          refine v_iinc (v := v + 1) rfl rfl (by decide) (by omega) ?_
          refine q_goto (t := 6) rfl (by decide) ?_
          have h_1361 := ir_1_4 hI_1358
          by_cases h_1362 : c_1357 1 4 = 0
          · skip
            refine Wp_ls [(0, .ref A), (1, .ref 1), (2, vi (v + 1))] (lsub_cons rfl (lsub_cons rfl (lsub_cons rfl lsub_nil))) ?_
            refine gh_stop (s_34_l (sc := sc) (d := dh + 18) (c := c_1357) (Z := fun _ => True) hI_1358 hA (fun _ _ _ => trivial) 124 c_1357 (v + 1) hI_1358 (fun a j hm => rfl) ⟨by omega, by omega⟩ (by omega)) (fun hG_1363 => ?_)
            refine q_aload_n rfl rfl ?_
            refine v_cv rfl rfl rfl rfl (by decide) ⟨⟨rfl, rfl⟩, by decide, rfl⟩ (Nat.le_of_ble_eq_true rfl) (Nat.le_of_ble_eq_true rfl) ?_
            refine q_aload_n rfl rfl ?_
            refine v_gi (z := 5) (v := (-1)) rfl rfl rfl (by decide) rfl rfl (hc_1) ?_
            refine q_iconst rfl ?_
            refine v_ic_ne_f (t := 12) rfl (by decide) (by decide) ?_
            refine q_iconst rfl ?_
            refine q_goto (t := 13) rfl (by decide) ?_
            refine v_zret rfl rfl (by decide) ?_
            refine bk_inl ?_
            refine v_if_eq_f (t := 136) rfl (by decide) (by decide) ?_
            refine q_aload_n rfl rfl ?_
            refine v_cv rfl rfl rfl rfl (by decide) ⟨⟨rfl, rfl⟩, by decide, rfl⟩ (Nat.le_of_ble_eq_true rfl) (Nat.le_of_ble_eq_true rfl) ?_
            refine q_aload_n rfl rfl ?_
            have kn_1364 : Hid (c2 41 3 = e1) := (hFc 41 3 (fun q => q.elim (fun h => absurd h.2 (ni rfl)) (fun q => q.elim (fun h => absurd h.2 (ni rfl)) (fun q => q.elim (fun h => absurd h.2 (ni rfl)) (fun q => q.elim (fun h => absurd h.2 (ni rfl)) (fun q => q.elim (fun h => absurd h.2 (ni rfl)) (fun q => q.elim (fun h => absurd h.2 (ni rfl)) (fun q => q.elim (fun h => absurd h.2 (ni rfl)) (fun q => q.elim (fun h => absurd h (nn rfl)) (fun q => q.elim (fun h => absurd h (nn rfl)) (fun h => absurd h (nn rfl)))))))))))).trans (hr_e1)
            have h_1365 : -2147483648 ≤ (H (nx F e1 a)) ∧ (H (nx F e1 a)) ≤ 2147483647 := by rw [← hH (nx F e1 a)]; exact ir_43 hI (nx F e1 a)
            have h_1366 := hU (nx F e1 a) (by omega) (by omega)
            have h_1367 := hb_or (b := H) (e := e1) (r := (nx F e1 a))
            have h_1368 := hb_bd (b := H) (e := e1) (r := (nx F e1 a)) (lo := -2147483648) (hi := 2147483647) ⟨by omega, by omega⟩ (by decide)
            refine v_cv rfl rfl rfl rfl (by decide) ⟨⟨rfl, rfl⟩, by decide, rfl⟩ (Nat.le_of_ble_eq_true rfl) (Nat.le_of_ble_eq_true rfl) (f_154 (e1 := e1) (a9 := a) (B := H) (r8 := (nx F e1 a)) (r := (hb H e1 (nx F e1 a))) hI2 ((hid kn_1364)) ((hr_a)) (fun j => (hFc 43 j (fun q => q.elim (fun h => absurd h.1 (nn rfl)) (fun q => q.elim (fun h => absurd h.1 (nn rfl)) (fun q => q.elim (fun h => absurd h.1 (nn rfl)) (fun q => q.elim (fun h => absurd h.1 (nn rfl)) (fun q => q.elim (fun h => absurd h.1 (nn rfl)) (fun q => q.elim (fun h => absurd h.1 (nn rfl)) (fun q => q.elim (fun h => absurd h.1 (nn rfl)) (fun q => q.elim (fun h => absurd h (nn rfl)) (fun q => q.elim (fun h => absurd h (nn rfl)) (fun h => absurd h (nn rfl)))))))))))).trans (hH j)) ((nx_tr hU (by omega) (by omega)).trans (rfl)) rfl (fun c_1369 hI_1370 hF_1371 h_1372 => ?_))
            refine bk_inl ?_
            refine q_pop rfl rfl ?_
            refine q_aload_n rfl rfl ?_
            refine v_gi (z := 4) (v := (nx F e1 a)) rfl rfl rfl (by decide) rfl rfl (h_1372) ?_
            refine q_aload_n rfl rfl ?_
            have kn_1373 : Hid (c_1369 41 3 = e1) := (hF_1371 41 3 (fun h => absurd h.2 (ni rfl))).trans (hid kn_1364)
            refine v_gi (z := 3) (v := e1) rfl rfl rfl (by decide) rfl rfl (hid kn_1373) ?_
            refine v_ic_ge_f (t := 20) rfl (by decide) (by omega) ?_
            refine q_iconst rfl ?_
            refine q_goto (t := 21) rfl (by decide) ?_
            refine v_zret rfl rfl (by decide) ?_
            refine bk_inl ?_
            refine v_if_eq_f (t := 136) rfl (by decide) (by decide) ?_
            refine q_aload_n rfl rfl ?_
            have h_1374 := wv_bd (b := F) (r := (nx F e1 a)) (l := (ln F e1 (nx F e1 a))) (fun j h1 h2 => ⟨(ln_in (e := e1) (a := (nx F e1 a)) h1 (by omega)).1, (ln_in (e := e1) (a := (nx F e1 a)) h1 (by omega)).2.1⟩)
            have h_1375 := wr8_3 (b := F) (r := (nx F e1 a)) (l := (ln F e1 (nx F e1 a))) (by omega) (fun j h1 h2 => ⟨(ln_in (e := e1) (a := (nx F e1 a)) h1 (by omega)).1, (ln_in (e := e1) (a := (nx F e1 a)) h1 (by omega)).2.1⟩) (by omega)
            refine v_cv rfl rfl rfl rfl (by decide) ⟨⟨rfl, rfl⟩, by decide, rfl⟩ (Nat.le_of_ble_eq_true rfl) (Nat.le_of_ble_eq_true rfl) (f_157 (e1 := e1) (a9 := (nx F e1 a)) (B := H) (r8 := (nx F e1 a)) (L8 := (ln F e1 (nx F e1 a))) (W8 := (wv F (nx F e1 a) (ln F e1 (nx F e1 a)))) hI_1370 ((hid kn_1373)) ((h_1372)) (fun j => ((hF_1371 43 j (fun h => absurd h.1 (nn rfl))).trans (hFc 43 j (fun q => q.elim (fun h => absurd h.1 (nn rfl)) (fun q => q.elim (fun h => absurd h.1 (nn rfl)) (fun q => q.elim (fun h => absurd h.1 (nn rfl)) (fun q => q.elim (fun h => absurd h.1 (nn rfl)) (fun q => q.elim (fun h => absurd h.1 (nn rfl)) (fun q => q.elim (fun h => absurd h.1 (nn rfl)) (fun q => q.elim (fun h => absurd h.1 (nn rfl)) (fun q => q.elim (fun h => absurd h (nn rfl)) (fun q => q.elim (fun h => absurd h (nn rfl)) (fun h => absurd h (nn rfl))))))))))))).trans (hH j)) ((nx_tr hU (by omega) (by omega)).trans ((nx_z (by omega)))) ((ln_tr hU (by omega) (by omega)).trans (rfl)) ((wv_tr hU (by omega) (by omega) (fun j h1 h2 => ⟨(ln_in (e := e1) (a := (nx F e1 a)) h1 (by omega)).1, (ln_in (e := e1) (a := (nx F e1 a)) h1 (by omega)).2.1⟩)).trans (rfl)) (fun c_1376 hI_1377 hF_1378 hz_1379 => ?_))
            refine bk_inl ?_
            refine q_istore_n rfl (by decide) ?_
            refine q_iload_n rfl rfl ?_
            refine q_call rfl rfl rfl rfl ?_
            refine q_iload_n rfl rfl ?_
            refine q_ldc_s rfl rfl rfl (by decide) ?_
            refine q_call rfl rfl rfl rfl (s_158_16 ?_)
            refine bk_inl ?_
            refine v_ic_eq_f (t := 36) rfl (by decide) (by omega) ?_
            refine q_iload_n rfl rfl ?_
            refine q_ldc_s rfl rfl rfl (by decide) ?_
            refine q_call rfl rfl rfl rfl (s_158_17 ?_)
            refine bk_inl ?_
            refine v_ic_eq_f (t := 36) rfl (by decide) (by omega) ?_
            refine q_iload_n rfl rfl ?_
            refine q_ldc_s rfl rfl rfl (by decide) ?_
            refine q_call rfl rfl rfl rfl (s_158_18 ?_)
            refine bk_inl ?_
            refine v_ic_eq_f (t := 36) rfl (by decide) (by omega) ?_
            refine q_iload_n rfl rfl ?_
            refine q_ldc_s rfl rfl rfl (by decide) ?_
            refine q_call rfl rfl rfl rfl (s_158_19 ?_)
            refine bk_inl ?_
            refine v_ic_ne_f (t := 40) rfl (by decide) (by omega) ?_
            refine q_iconst rfl ?_
            refine q_goto (t := 41) rfl (by decide) ?_
            refine v_zret rfl rfl (by decide) ?_
            refine bk_inl ?_
            refine v_if_ne_t (t := 82) rfl (by decide) (by decide) ?_
            refine q_iload_n rfl rfl ?_
            refine v_bip rfl (by decide) ?_
            refine v_ic_eq_f (t := 96) rfl (by decide) (by omega) ?_
            refine q_aload_n rfl rfl ?_
            refine q_iload_n rfl rfl ?_
            refine v_cv rfl rfl rfl rfl (by decide) ⟨⟨rfl, rfl⟩, by decide, rfl⟩ (Nat.le_of_ble_eq_true rfl) (Nat.le_of_ble_eq_true rfl) ?_
            refine q_iload_n rfl rfl ?_
            refine q_ldc_s rfl rfl rfl (by decide) ?_
            refine q_call rfl rfl rfl rfl (s_158_16 ?_)
            refine bk_inl ?_
            refine v_ic_ne_t (t := 26) rfl (by decide) (by omega) ?_
            refine q_iload_n rfl rfl ?_
            refine q_ldc_s rfl rfl rfl (by decide) ?_
            refine q_call rfl rfl rfl rfl (s_158_17 ?_)
            refine bk_inl ?_
            refine v_ic_ne_t (t := 51) rfl (by decide) (by omega) ?_
            refine q_iload_n rfl rfl ?_
            refine q_ldc_s rfl rfl rfl (by decide) ?_
            refine q_call rfl rfl rfl rfl (s_158_18 ?_)
            refine bk_inl ?_
            refine v_ic_ne_t (t := 72) rfl (by decide) (by omega) ?_
            refine q_iconst rfl ?_
            refine v_zret rfl rfl (by decide) ?_
            refine bk_inl ?_
            refine v_if_eq_t (t := 105) rfl (by decide) (by decide) ?_
            refine q_aload_n rfl rfl ?_
            refine v_cv rfl rfl rfl rfl (by decide) ⟨⟨rfl, rfl⟩, by decide, rfl⟩ (Nat.le_of_ble_eq_true rfl) (Nat.le_of_ble_eq_true rfl) ?_
            refine q_aload_n rfl rfl ?_
            have kn_1380 : Hid (c_1369 41 5 = (-1)) := (hF_1371 41 5 (fun h => absurd h.2 (ni rfl))).trans (hc_1)
            have kn_1381 : Hid (c_1376 41 5 = (-1)) := (hF_1378 41 5 (fun h => absurd h.2 (ni rfl))).trans (hid kn_1380)
            refine v_gi (z := 5) (v := (-1)) rfl rfl rfl (by decide) rfl rfl (hid kn_1381) ?_
            refine q_iconst rfl ?_
            refine v_ic_ne_f (t := 12) rfl (by decide) (by decide) ?_
            refine q_iconst rfl ?_
            refine q_goto (t := 13) rfl (by decide) ?_
            refine v_zret rfl rfl (by decide) ?_
            refine bk_inl ?_
            refine v_if_ne_t (t := 115) rfl (by decide) (by decide) ?_
            refine q_aload_n rfl rfl ?_
            have kn_1382 : Hid (c_1376 41 3 = e1) := (hF_1378 41 3 (fun h => absurd h.2 (ni rfl))).trans (hid kn_1373)
            refine v_cv rfl rfl rfl rfl (by decide) ⟨⟨rfl, rfl⟩, by decide, rfl⟩ (Nat.le_of_ble_eq_true rfl) (Nat.le_of_ble_eq_true rfl) (f_159 (e1 := e1) (a9 := (nx F e1 a)) (B := H) (L8 := (ln F e1 (nx F e1 a))) hI_1377 ((hid kn_1382)) ((hz_1379)) (fun j => ((hF_1378 43 j (fun h => absurd h.1 (nn rfl))).trans ((hF_1371 43 j (fun h => absurd h.1 (nn rfl))).trans (hFc 43 j (fun q => q.elim (fun h => absurd h.1 (nn rfl)) (fun q => q.elim (fun h => absurd h.1 (nn rfl)) (fun q => q.elim (fun h => absurd h.1 (nn rfl)) (fun q => q.elim (fun h => absurd h.1 (nn rfl)) (fun q => q.elim (fun h => absurd h.1 (nn rfl)) (fun q => q.elim (fun h => absurd h.1 (nn rfl)) (fun q => q.elim (fun h => absurd h.1 (nn rfl)) (fun q => q.elim (fun h => absurd h (nn rfl)) (fun q => q.elim (fun h => absurd h (nn rfl)) (fun h => absurd h (nn rfl)))))))))))))).trans (hH j)) ((ln_tr hU (by omega) (by omega)).trans (rfl)) (fun c_1383 hI_1384 hF_1385 hz_1386 => ?_))
            refine bk_inl ?_
            refine q_aload_n rfl rfl ?_
            refine q_iload_n rfl rfl ?_
            have hw_1387 : (wv F (nx F e1 a) (ln F e1 (nx F e1 a))) = 153204 := by omega
            rw [hw_1387]
            have kn_1388 : Hid (c_112 1 1 = e1) := (hF_114 1 1 (fun q => q.elim (fun h => absurd h.2 (ni rfl)) (fun q => q.elim (fun h => absurd h.2 (ni rfl)) (fun h => absurd h.2 (ni rfl))))).trans (hid kn_91)
            have kn_1389 : Hid (c_1383 41 3 = e1) := (hF_1385 41 3 (fun h => absurd h.2 (ni rfl))).trans (hid kn_1382)
            have kn_1390 : Hid (c_1369 41 16 = jr) := (hF_1371 41 16 (fun h => absurd h.2 (ni rfl))).trans (hr_jr)
            have kn_1391 : Hid (c_1376 41 16 = jr) := (hF_1378 41 16 (fun h => absurd h.2 (ni rfl))).trans (hid kn_1390)
            have kn_1392 : Hid (c_1383 41 16 = jr) := (hF_1385 41 16 (fun h => absurd h.2 (ni rfl))).trans (hid kn_1391)
            have kn_1393 : Hid (c_1369 41 17 = st) := (hF_1371 41 17 (fun h => absurd h.2 (ni rfl))).trans (hr_st)
            have kn_1394 : Hid (c_1376 41 17 = st) := (hF_1378 41 17 (fun h => absurd h.2 (ni rfl))).trans (hid kn_1393)
            have kn_1395 : Hid (c_1383 41 17 = st) := (hF_1385 41 17 (fun h => absurd h.2 (ni rfl))).trans (hid kn_1394)
            have kn_1396 : Hid (c_1369 41 18 = si) := (hF_1371 41 18 (fun h => absurd h.2 (ni rfl))).trans (hr_si)
            have kn_1397 : Hid (c_1376 41 18 = si) := (hF_1378 41 18 (fun h => absurd h.2 (ni rfl))).trans (hid kn_1396)
            have kn_1398 : Hid (c_1383 41 18 = si) := (hF_1385 41 18 (fun h => absurd h.2 (ni rfl))).trans (hid kn_1397)
            have kn_1399 : Hid (c_27 A 3 = du) := (hF_29 A 3 (fun h => absurd h.1 (np0 hA rfl))).trans (hg_du)
            have kn_1400 : Hid (c_87 A 3 = du) := (hF_89 A 3 (fun h => absurd h.1 (np0 hA rfl))).trans (hid kn_1399)
            have kn_1401 : Hid (c_112 A 3 = du) := (hF_114 A 3 (fun q => q.elim (fun h => absurd h.1 (np0 hA rfl)) (fun q => q.elim (fun h => absurd h.1 (np0 hA rfl)) (fun h => absurd h.1 (np0 hA rfl))))).trans (hid kn_1400)
            have kn_1402 : Hid (c_1369 41 19 = du) := (hF_1371 41 19 (fun h => absurd h.2 (ni rfl))).trans (hr_du)
            have kn_1403 : Hid (c_1376 41 19 = du) := (hF_1378 41 19 (fun h => absurd h.2 (ni rfl))).trans (hid kn_1402)
            have kn_1404 : Hid (c_1383 41 19 = du) := (hF_1385 41 19 (fun h => absurd h.2 (ni rfl))).trans (hid kn_1403)
            have h_1405 : c_112 1 4 = 0 := (hz_118)
            have h_1406 : c_112 1 2 = (ln F e1 (nx F e1 a)) := (hz_117)
            have h_1407 : c_112 1 5 = (-1) := (hz_119)
            have kn_1408 : Hid (c_1383 41 5 = (-1)) := (hF_1385 41 5 (fun h => absurd h.2 (ni rfl))).trans (hid kn_1381)
            have h_1409 : c_1383 41 5 = (-1) := (hid kn_1408)
            have h_1410 : c_1383 41 4 = (ln F e1 (nx F e1 a)) := (hz_1386)
            have h_1411 := ir_41_6 hI2
            have kn_1412 : Hid (c_1369 41 6 = c2 41 6) := hF_1371 41 6 (fun h => absurd h.2 (ni rfl))
            have kn_1413 : Hid (c_1376 41 6 = c2 41 6) := (hF_1378 41 6 (fun h => absurd h.2 (ni rfl))).trans (hid kn_1412)
            have kn_1414 : Hid (c_1383 41 6 = c2 41 6) := (hF_1385 41 6 (fun h => absurd h.2 (ni rfl))).trans (hid kn_1413)
            have h_1415 : c_1383 41 6 = c2 41 6 := (hid kn_1414)
            have hA_1416 : Ae (4 * jr) (c_112 (A + 1)) (c_1383 44) := ae_fr hrl0 (fun j => (hF_114 (A + 1) j (fun q => q.elim (fun h => absurd h.1 (np hA rfl rfl)) (fun q => q.elim (fun h => absurd h.1 (np hA rfl rfl)) (fun h => absurd h.1 (np hA rfl rfl))))).trans ((hF_89 (A + 1) j (fun h => absurd h.1 (np hA rfl rfl))).trans (hF_29 (A + 1) j (fun h => absurd h.1 (np hA rfl rfl))))) (fun j => (hF_1385 44 j (fun h => absurd h.1 (nn rfl))).trans ((hF_1378 44 j (fun h => absurd h.1 (nn rfl))).trans (hF_1371 44 j (fun h => absurd h.1 (nn rfl)))))
            have hA_1417 : Ae (3 * st) (c_112 (A + 2)) (c_1383 45) := ae_fr hrl1 (fun j => (hF_114 (A + 2) j (fun q => q.elim (fun h => absurd h.1 (np hA rfl rfl)) (fun q => q.elim (fun h => absurd h.1 (np hA rfl rfl)) (fun h => absurd h.1 (np hA rfl rfl))))).trans ((hF_89 (A + 2) j (fun h => absurd h.1 (np hA rfl rfl))).trans (hF_29 (A + 2) j (fun h => absurd h.1 (np hA rfl rfl))))) (fun j => (hF_1385 45 j (fun h => absurd h.1 (nn rfl))).trans ((hF_1378 45 j (fun h => absurd h.1 (nn rfl))).trans (hF_1371 45 j (fun h => absurd h.1 (nn rfl)))))
            have hA_1418 : Ae si (c_112 (A + 3)) (c_1383 46) := ae_fr hrl2 (fun j => (hF_114 (A + 3) j (fun q => q.elim (fun h => absurd h.1 (np hA rfl rfl)) (fun q => q.elim (fun h => absurd h.1 (np hA rfl rfl)) (fun h => absurd h.1 (np hA rfl rfl))))).trans ((hF_89 (A + 3) j (fun h => absurd h.1 (np hA rfl rfl))).trans (hF_29 (A + 3) j (fun h => absurd h.1 (np hA rfl rfl))))) (fun j => (hF_1385 46 j (fun h => absurd h.1 (nn rfl))).trans ((hF_1378 46 j (fun h => absurd h.1 (nn rfl))).trans (hF_1371 46 j (fun h => absurd h.1 (nn rfl)))))
            refine v_cv rfl rfl rfl rfl (by decide) ⟨⟨rfl, rfl⟩, by decide, rfl⟩ (Nat.le_of_ble_eq_true rfl) (Nat.le_of_ble_eq_true rfl) (L_33a_3 (m := c_112) (e1 := e1) (jr := jr) (st := st) (si := si) (du := du) (F := F) (H := H) hI_1384 hI_113 hI_1353 hA ((hid kn_1388)) ((hid kn_1389)) ((hid kn_1342)) ((hid kn_1392)) ((hid kn_1346)) ((hid kn_1395)) ((hid kn_1350)) ((hid kn_1398)) ((hid kn_1401)) ((hid kn_1404)) (fun j => ((hF_114 2 j (fun q => q.elim (fun h => absurd h.1 (nn rfl)) (fun q => q.elim (fun h => absurd h.1 (nn rfl)) (fun h => absurd h.1 (nn rfl))))).trans ((hF_89 2 j (fun h => absurd h.1 (nn rfl))).trans ((hF_29 2 j (fun h => absurd h.1 (nn rfl))).trans (hFm 2 j (fun q => q.elim (fun h => absurd h.1 (nn rfl)) (fun q => q.elim (fun h => absurd h.1 (nn rfl)) (fun q => q.elim (fun h => absurd h.1 (nn rfl)) (fun q => q.elim (fun h => absurd h.1 (pn0 hA rfl)) (fun q => q.elim (fun h => absurd h.1 (pn0 hA rfl)) (fun q => q.elim (fun h => absurd h.1 (pn0 hA rfl)) (fun q => q.elim (fun h => absurd h.1 (pn0 hA rfl)) (fun q => q.elim (fun h => absurd h (pn hA rfl rfl)) (fun q => q.elim (fun h => absurd h (pn hA rfl rfl)) (fun q => q.elim (fun h => absurd h (pn hA rfl rfl)) (fun q => q.elim (fun h => absurd h.1 (pn0 hA rfl)) (fun q => q.elim (fun h => absurd h.1 (pn0 hA rfl)) (fun q => q.elim (fun h => absurd h (pn hA rfl rfl)) (fun h => absurd h.1 (pn hA rfl rfl))))))))))))))))))).trans (hF j)) (fun j => ((hF_1385 43 j (fun h => absurd h.1 (nn rfl))).trans ((hF_1378 43 j (fun h => absurd h.1 (nn rfl))).trans ((hF_1371 43 j (fun h => absurd h.1 (nn rfl))).trans (hFc 43 j (fun q => q.elim (fun h => absurd h.1 (nn rfl)) (fun q => q.elim (fun h => absurd h.1 (nn rfl)) (fun q => q.elim (fun h => absurd h.1 (nn rfl)) (fun q => q.elim (fun h => absurd h.1 (nn rfl)) (fun q => q.elim (fun h => absurd h.1 (nn rfl)) (fun q => q.elim (fun h => absurd h.1 (nn rfl)) (fun q => q.elim (fun h => absurd h.1 (nn rfl)) (fun q => q.elim (fun h => absurd h (nn rfl)) (fun q => q.elim (fun h => absurd h (nn rfl)) (fun h => absurd h (nn rfl))))))))))))))).trans (hH j)) hU (by unfold Rt; omega) (ae_le hA_1416 (by omega)) (ae_le hA_1417 (by omega)) (ae_le hA_1418 (by omega)) hG_1355 (fun c_1419 hI_1420 hF_1421 hR_1423 h_1424 h_1425 h_1426 h_1427 hA_1428 hA_1429 hA_1430 => ?_))
            refine bk_inl ?_
            have h_1431 := ir_41_16 hI_1420
            have h_1432 := ir_p0_0 hI_1353 hA
            have h_1433 := ir_41_17 hI_1420
            have h_1434 := ir_p0_1 hI_1353 hA
            have h_1435 := ir_41_18 hI_1420
            have h_1436 := ir_p0_2 hI_1353 hA
            have h_1437 := ir_41_19 hI_1420
            have h_1438 := ir_p0_3 hI_1353 hA
            refine q_aload_n rfl rfl ?_
            refine v_bip rfl (by decide) ?_
            have kn_1439 : Hid (c_1352 1 1 = e1) := (hF_1354 1 1 (fun q => q.elim (fun h => absurd h.2 (ni rfl)) (fun q => q.elim (fun h => absurd h.2 (ni rfl)) (fun q => q.elim (fun h => absurd h.2 (ni rfl)) (fun q => q.elim (fun h => absurd h.1 (pn0 hA rfl)) (fun q => q.elim (fun h => absurd h.1 (pn0 hA rfl)) (fun q => q.elim (fun h => absurd h.1 (pn0 hA rfl)) (fun q => q.elim (fun h => absurd h.1 (pn0 hA rfl)) (fun q => q.elim (fun h => absurd h (pn hA rfl rfl)) (fun q => q.elim (fun h => absurd h (pn hA rfl rfl)) (fun h => absurd h (pn hA rfl rfl)))))))))))).trans (hid kn_1388)
            have kn_1440 : Hid (c_1419 41 3 = e1) := (hF_1421 41 3 (fun q => q.elim (fun h => absurd h.2 (ni rfl)) (fun q => q.elim (fun h => absurd h.2 (ni rfl)) (fun q => q.elim (fun h => absurd h.2 (ni rfl)) (fun q => q.elim (fun h => absurd h.2 (ni rfl)) (fun q => q.elim (fun h => absurd h.2 (ni rfl)) (fun q => q.elim (fun h => absurd h.2 (ni rfl)) (fun q => q.elim (fun h => absurd h.2 (ni rfl)) (fun q => q.elim (fun h => absurd h (nn rfl)) (fun q => q.elim (fun h => absurd h (nn rfl)) (fun h => absurd h (nn rfl)))))))))))).trans (hid kn_1389)
            have h_1441 := ir_1_2 hI_1353
            refine v_cv rfl rfl rfl rfl (by decide) ⟨⟨rfl, rfl⟩, by decide, rfl⟩ (Nat.le_of_ble_eq_true rfl) (Nat.le_of_ble_eq_true rfl) (L_11_9 (m := c_1352) (e1 := e1) (a9 := c_1352 1 2) (F := F) (H := H) hI_1420 hI_1353 hI_1358 ((hid kn_1439)) ((hid kn_1440)) (rfl) (fun j => ((hF_1354 2 j (fun q => q.elim (fun h => absurd h.1 (nn rfl)) (fun q => q.elim (fun h => absurd h.1 (nn rfl)) (fun q => q.elim (fun h => absurd h.1 (nn rfl)) (fun q => q.elim (fun h => absurd h.1 (pn0 hA rfl)) (fun q => q.elim (fun h => absurd h.1 (pn0 hA rfl)) (fun q => q.elim (fun h => absurd h.1 (pn0 hA rfl)) (fun q => q.elim (fun h => absurd h.1 (pn0 hA rfl)) (fun q => q.elim (fun h => absurd h (pn hA rfl rfl)) (fun q => q.elim (fun h => absurd h (pn hA rfl rfl)) (fun h => absurd h (pn hA rfl rfl)))))))))))).trans ((hF_114 2 j (fun q => q.elim (fun h => absurd h.1 (nn rfl)) (fun q => q.elim (fun h => absurd h.1 (nn rfl)) (fun h => absurd h.1 (nn rfl))))).trans ((hF_89 2 j (fun h => absurd h.1 (nn rfl))).trans ((hF_29 2 j (fun h => absurd h.1 (nn rfl))).trans (hFm 2 j (fun q => q.elim (fun h => absurd h.1 (nn rfl)) (fun q => q.elim (fun h => absurd h.1 (nn rfl)) (fun q => q.elim (fun h => absurd h.1 (nn rfl)) (fun q => q.elim (fun h => absurd h.1 (pn0 hA rfl)) (fun q => q.elim (fun h => absurd h.1 (pn0 hA rfl)) (fun q => q.elim (fun h => absurd h.1 (pn0 hA rfl)) (fun q => q.elim (fun h => absurd h.1 (pn0 hA rfl)) (fun q => q.elim (fun h => absurd h (pn hA rfl rfl)) (fun q => q.elim (fun h => absurd h (pn hA rfl rfl)) (fun q => q.elim (fun h => absurd h (pn hA rfl rfl)) (fun q => q.elim (fun h => absurd h.1 (pn0 hA rfl)) (fun q => q.elim (fun h => absurd h.1 (pn0 hA rfl)) (fun q => q.elim (fun h => absurd h (pn hA rfl rfl)) (fun h => absurd h.1 (pn hA rfl rfl)))))))))))))))))))).trans (hF j)) (fun j => ((hF_1421 43 j (fun q => q.elim (fun h => absurd h.1 (nn rfl)) (fun q => q.elim (fun h => absurd h.1 (nn rfl)) (fun q => q.elim (fun h => absurd h.1 (nn rfl)) (fun q => q.elim (fun h => absurd h.1 (nn rfl)) (fun q => q.elim (fun h => absurd h.1 (nn rfl)) (fun q => q.elim (fun h => absurd h.1 (nn rfl)) (fun q => q.elim (fun h => absurd h.1 (nn rfl)) (fun q => q.elim (fun h => absurd h (nn rfl)) (fun q => q.elim (fun h => absurd h (nn rfl)) (fun h => absurd h (nn rfl)))))))))))).trans ((hF_1385 43 j (fun h => absurd h.1 (nn rfl))).trans ((hF_1378 43 j (fun h => absurd h.1 (nn rfl))).trans ((hF_1371 43 j (fun h => absurd h.1 (nn rfl))).trans (hFc 43 j (fun q => q.elim (fun h => absurd h.1 (nn rfl)) (fun q => q.elim (fun h => absurd h.1 (nn rfl)) (fun q => q.elim (fun h => absurd h.1 (nn rfl)) (fun q => q.elim (fun h => absurd h.1 (nn rfl)) (fun q => q.elim (fun h => absurd h.1 (nn rfl)) (fun q => q.elim (fun h => absurd h.1 (nn rfl)) (fun q => q.elim (fun h => absurd h.1 (nn rfl)) (fun q => q.elim (fun h => absurd h (nn rfl)) (fun q => q.elim (fun h => absurd h (nn rfl)) (fun h => absurd h (nn rfl)))))))))))))))).trans (hH j)) hU hR_1423 hG_1360 (fun c_1442 hI_1443 hF_1444 hR_1446 h_1447 => ?_))
            refine bk_inl ?_
            have h_1448 := ir_1_2 hI_1358
            refine v_iinc (v := v + 1) rfl rfl (by decide) (by omega) ?_
            refine q_goto (t := 44) rfl (by decide) ?_
            refine Wp_ls [(0, .ref 41), (1, vi a1), (2, vi (v + 1))] (lsub_cons rfl (lsub_cons rfl (lsub_cons rfl lsub_nil))) ?_
            have h_1449 := ir_41_4 hI_1443
            have h_1450 := ir_1_5 hI_1358
            have h_1451 := ir_41_5 hI_1443
            have h_1452 := ir_41_6 hI_1443
            have h_1453 := rt_ok hR_1446 (by omega)
            have hro_hR_1446 := rt_ok hR_1446 (by omega)
            have kn_1454 : Hid (c_1357 A 0 = c_1352 A 0) := hF_1359 A 0 (fun q => q.elim (fun h => absurd h.1 (np0 hA rfl)) (fun q => q.elim (fun h => absurd h.1 (np0 hA rfl)) (fun h => absurd h.1 (np0 hA rfl))))
            have kn_1455 : Hid (c_1442 41 16 = c_1419 41 16) := hF_1444 41 16 (fun q => q.elim (fun h => absurd h.2 (ni rfl)) (fun q => q.elim (fun h => absurd h.2 (ni rfl)) (fun h => absurd h.2 (ni rfl))))
            have kn_1456 : Hid (c_1357 A 1 = c_1352 A 1) := hF_1359 A 1 (fun q => q.elim (fun h => absurd h.1 (np0 hA rfl)) (fun q => q.elim (fun h => absurd h.1 (np0 hA rfl)) (fun h => absurd h.1 (np0 hA rfl))))
            have kn_1457 : Hid (c_1442 41 17 = c_1419 41 17) := hF_1444 41 17 (fun q => q.elim (fun h => absurd h.2 (ni rfl)) (fun q => q.elim (fun h => absurd h.2 (ni rfl)) (fun h => absurd h.2 (ni rfl))))
            have kn_1458 : Hid (c_1357 A 2 = c_1352 A 2) := hF_1359 A 2 (fun q => q.elim (fun h => absurd h.1 (np0 hA rfl)) (fun q => q.elim (fun h => absurd h.1 (np0 hA rfl)) (fun h => absurd h.1 (np0 hA rfl))))
            have kn_1459 : Hid (c_1442 41 18 = c_1419 41 18) := hF_1444 41 18 (fun q => q.elim (fun h => absurd h.2 (ni rfl)) (fun q => q.elim (fun h => absurd h.2 (ni rfl)) (fun h => absurd h.2 (ni rfl))))
            have kn_1460 : Hid (c_1357 A 3 = c_1352 A 3) := hF_1359 A 3 (fun q => q.elim (fun h => absurd h.1 (np0 hA rfl)) (fun q => q.elim (fun h => absurd h.1 (np0 hA rfl)) (fun h => absurd h.1 (np0 hA rfl))))
            have kn_1461 : Hid (c_1442 41 19 = c_1419 41 19) := hF_1444 41 19 (fun q => q.elim (fun h => absurd h.2 (ni rfl)) (fun q => q.elim (fun h => absurd h.2 (ni rfl)) (fun h => absurd h.2 (ni rfl))))
            have hA_1462 : Ae (4 * c_1419 41 16) (c_1357 (A + 1)) (c_1442 44) := ae_fr hA_1428 (fun j => hF_1359 (A + 1) j (fun q => q.elim (fun h => absurd h.1 (np hA rfl rfl)) (fun q => q.elim (fun h => absurd h.1 (np hA rfl rfl)) (fun h => absurd h.1 (np hA rfl rfl))))) (fun j => hF_1444 44 j (fun q => q.elim (fun h => absurd h.1 (nn rfl)) (fun q => q.elim (fun h => absurd h.1 (nn rfl)) (fun h => absurd h.1 (nn rfl)))))
            have hA_1463 : Ae (4 * c_1352 A 0) (c_1357 (A + 1)) (c_1442 44) := ae_le hA_1462 (by omega)
            have hA_1464 : Ae (3 * c_1419 41 17) (c_1357 (A + 2)) (c_1442 45) := ae_fr hA_1429 (fun j => hF_1359 (A + 2) j (fun q => q.elim (fun h => absurd h.1 (np hA rfl rfl)) (fun q => q.elim (fun h => absurd h.1 (np hA rfl rfl)) (fun h => absurd h.1 (np hA rfl rfl))))) (fun j => hF_1444 45 j (fun q => q.elim (fun h => absurd h.1 (nn rfl)) (fun q => q.elim (fun h => absurd h.1 (nn rfl)) (fun h => absurd h.1 (nn rfl)))))
            have hA_1465 : Ae (3 * c_1352 A 1) (c_1357 (A + 2)) (c_1442 45) := ae_le hA_1464 (by omega)
            have hA_1466 : Ae (c_1419 41 18) (c_1357 (A + 3)) (c_1442 46) := ae_fr hA_1430 (fun j => hF_1359 (A + 3) j (fun q => q.elim (fun h => absurd h.1 (np hA rfl rfl)) (fun q => q.elim (fun h => absurd h.1 (np hA rfl rfl)) (fun h => absurd h.1 (np hA rfl rfl))))) (fun j => hF_1444 46 j (fun q => q.elim (fun h => absurd h.1 (nn rfl)) (fun q => q.elim (fun h => absurd h.1 (nn rfl)) (fun h => absurd h.1 (nn rfl)))))
            have hA_1467 : Ae (c_1352 A 2) (c_1357 (A + 3)) (c_1442 46) := ae_le hA_1466 (by omega)
            exact ih c_1442 c_1357 (v + 1) (c_1357 1 2) (c_1352 A 0) (c_1352 A 1) (c_1352 A 2) (c_1352 A 3) hI_1443 (fun a j hm => (hF_1444 a j (fun q => q.elim (fun h => hm (Or.inl h)) (fun q => q.elim (fun h => hm (Or.inr (Or.inl h))) (fun h => hm (Or.inr (Or.inr (Or.inl h))))))).trans ((hF_1421 a j (fun q => q.elim (fun h => hm (Or.inl h)) (fun q => q.elim (fun h => hm (Or.inr (Or.inl h))) (fun q => q.elim (fun h => hm (Or.inr (Or.inr (Or.inl h)))) (fun q => q.elim (fun h => hm (Or.inr (Or.inr (Or.inr (Or.inl h))))) (fun q => q.elim (fun h => hm (Or.inr (Or.inr (Or.inr (Or.inr (Or.inl h)))))) (fun q => q.elim (fun h => hm (Or.inr (Or.inr (Or.inr (Or.inr (Or.inr (Or.inl h))))))) (fun q => q.elim (fun h => hm (Or.inr (Or.inr (Or.inr (Or.inr (Or.inr (Or.inr (Or.inl h)))))))) (fun q => q.elim (fun h => hm (Or.inr (Or.inr (Or.inr (Or.inr (Or.inr (Or.inr (Or.inr (Or.inl h))))))))) (fun q => q.elim (fun h => hm (Or.inr (Or.inr (Or.inr (Or.inr (Or.inr (Or.inr (Or.inr (Or.inr (Or.inl h)))))))))) (fun h => hm (Or.inr (Or.inr (Or.inr (Or.inr (Or.inr (Or.inr (Or.inr (Or.inr (Or.inr h)))))))))))))))))))).trans ((hF_1385 a j (fun h => hm (Or.inl h))).trans ((hF_1378 a j (fun h => hm (Or.inl h))).trans ((hF_1371 a j (fun h => hm (Or.inl h))).trans (hFc a j (fun q => q.elim (fun h => hm (Or.inl h)) (fun q => q.elim (fun h => hm (Or.inr (Or.inl h))) (fun q => q.elim (fun h => hm (Or.inr (Or.inr (Or.inl h)))) (fun q => q.elim (fun h => hm (Or.inr (Or.inr (Or.inr (Or.inl h))))) (fun q => q.elim (fun h => hm (Or.inr (Or.inr (Or.inr (Or.inr (Or.inl h)))))) (fun q => q.elim (fun h => hm (Or.inr (Or.inr (Or.inr (Or.inr (Or.inr (Or.inl h))))))) (fun q => q.elim (fun h => hm (Or.inr (Or.inr (Or.inr (Or.inr (Or.inr (Or.inr (Or.inl h)))))))) (fun q => q.elim (fun h => hm (Or.inr (Or.inr (Or.inr (Or.inr (Or.inr (Or.inr (Or.inr (Or.inl h))))))))) (fun q => q.elim (fun h => hm (Or.inr (Or.inr (Or.inr (Or.inr (Or.inr (Or.inr (Or.inr (Or.inr (Or.inl h)))))))))) (fun h => hm (Or.inr (Or.inr (Or.inr (Or.inr (Or.inr (Or.inr (Or.inr (Or.inr (Or.inr h))))))))))))))))))))))))) hI_1358 (fun a j hm => (hF_1359 a j (fun q => q.elim (fun h => hm (Or.inl h)) (fun q => q.elim (fun h => hm (Or.inr (Or.inl h))) (fun h => hm (Or.inr (Or.inr (Or.inl h))))))).trans ((hF_1354 a j (fun q => q.elim (fun h => hm (Or.inl h)) (fun q => q.elim (fun h => hm (Or.inr (Or.inl h))) (fun q => q.elim (fun h => hm (Or.inr (Or.inr (Or.inl h)))) (fun q => q.elim (fun h => hm (Or.inr (Or.inr (Or.inr (Or.inl h))))) (fun q => q.elim (fun h => hm (Or.inr (Or.inr (Or.inr (Or.inr (Or.inl h)))))) (fun q => q.elim (fun h => hm (Or.inr (Or.inr (Or.inr (Or.inr (Or.inr (Or.inl h))))))) (fun q => q.elim (fun h => hm (Or.inr (Or.inr (Or.inr (Or.inr (Or.inr (Or.inr (Or.inl h)))))))) (fun q => q.elim (fun h => hm (Or.inr (Or.inr (Or.inr (Or.inr (Or.inr (Or.inr (Or.inr (Or.inl h))))))))) (fun q => q.elim (fun h => hm (Or.inr (Or.inr (Or.inr (Or.inr (Or.inr (Or.inr (Or.inr (Or.inr (Or.inl h)))))))))) (fun h => hm (Or.inr (Or.inr (Or.inr (Or.inr (Or.inr (Or.inr (Or.inr (Or.inr (Or.inr (Or.inl h))))))))))))))))))))).trans ((hF_114 a j (fun q => q.elim (fun h => hm (Or.inl h)) (fun q => q.elim (fun h => hm (Or.inr (Or.inl h))) (fun h => hm (Or.inr (Or.inr (Or.inl h))))))).trans ((hF_89 a j (fun h => hm (Or.inl h))).trans ((hF_29 a j (fun h => hm (Or.inl h))).trans (hFm a j (fun q => q.elim (fun h => hm (Or.inl h)) (fun q => q.elim (fun h => hm (Or.inr (Or.inl h))) (fun q => q.elim (fun h => hm (Or.inr (Or.inr (Or.inl h)))) (fun q => q.elim (fun h => hm (Or.inr (Or.inr (Or.inr (Or.inl h))))) (fun q => q.elim (fun h => hm (Or.inr (Or.inr (Or.inr (Or.inr (Or.inl h)))))) (fun q => q.elim (fun h => hm (Or.inr (Or.inr (Or.inr (Or.inr (Or.inr (Or.inl h))))))) (fun q => q.elim (fun h => hm (Or.inr (Or.inr (Or.inr (Or.inr (Or.inr (Or.inr (Or.inl h)))))))) (fun q => q.elim (fun h => hm (Or.inr (Or.inr (Or.inr (Or.inr (Or.inr (Or.inr (Or.inr (Or.inl h))))))))) (fun q => q.elim (fun h => hm (Or.inr (Or.inr (Or.inr (Or.inr (Or.inr (Or.inr (Or.inr (Or.inr (Or.inl h)))))))))) (fun q => q.elim (fun h => hm (Or.inr (Or.inr (Or.inr (Or.inr (Or.inr (Or.inr (Or.inr (Or.inr (Or.inr (Or.inl h))))))))))) (fun q => q.elim (fun h => hm (Or.inr (Or.inr (Or.inr (Or.inr (Or.inr (Or.inr (Or.inr (Or.inr (Or.inr (Or.inr (Or.inl h)))))))))))) (fun q => q.elim (fun h => hm (Or.inr (Or.inr (Or.inr (Or.inr (Or.inr (Or.inr (Or.inr (Or.inr (Or.inr (Or.inr (Or.inr (Or.inl h))))))))))))) (fun q => q.elim (fun h => hm (Or.inr (Or.inr (Or.inr (Or.inr (Or.inr (Or.inr (Or.inr (Or.inr (Or.inr (Or.inr (Or.inr (Or.inr (Or.inl h)))))))))))))) (fun h => hm (Or.inr (Or.inr (Or.inr (Or.inr (Or.inr (Or.inr (Or.inr (Or.inr (Or.inr (Or.inr (Or.inr (Or.inr (Or.inr h))))))))))))))))))))))))))))))))) ⟨by omega, by omega⟩ ⟨by omega, by omega⟩ ⟨by omega, by omega⟩ ⟨by omega, by omega⟩ ⟨by omega, by omega⟩ ⟨by omega, by omega⟩ (rfl) (hro_hR_1446.2.2.1) ((hid kn_1454)) ((show _ = c_1419 41 16 from (hid kn_1455)).trans (by omega)) ((hid kn_1456)) ((show _ = c_1419 41 17 from (hid kn_1457)).trans (by omega)) ((hid kn_1458)) ((show _ = c_1419 41 18 from (hid kn_1459)).trans (by omega)) ((hid kn_1460)) ((show _ = c_1419 41 19 from (hid kn_1461)).trans (by omega)) ((show _ = c_1357 1 4 from rfl).trans (by omega)) (hro_hR_1446.2.1) ((show _ = c_1357 1 5 from rfl).trans (by omega)) (ae_le hA_1463 (by omega)) (ae_le hA_1465 (by omega)) (ae_le hA_1467 (by omega)) hG_1363 (by omega)
          · skip
            refine q_iload_n rfl rfl ?_
            refine v_bip rfl (by decide) ?_
            refine v_ic_gt_f (t := 85) rfl (by decide) (by omega) ?_
            refine q_aload_n rfl rfl ?_
            refine v_cv rfl rfl rfl rfl (by decide) ⟨⟨rfl, rfl⟩, by decide, rfl⟩ (Nat.le_of_ble_eq_true rfl) (Nat.le_of_ble_eq_true rfl) ?_
            refine q_aload_n rfl rfl ?_
            refine v_cv rfl rfl rfl rfl (by decide) ⟨⟨rfl, rfl⟩, by decide, rfl⟩ (Nat.le_of_ble_eq_true rfl) (Nat.le_of_ble_eq_true rfl) ?_
            refine q_aload_n rfl rfl ?_
            refine v_gi (z := 4) (v := c_1357 1 4) rfl rfl rfl (by decide) rfl rfl rfl ?_
            refine v_if_ne_t (t := 11) rfl (by decide) (by omega) ?_
            refine q_iconst rfl ?_
            refine v_zret rfl rfl (by decide) ?_
            refine bk_inl ?_
            refine v_if_eq_t (t := 22) rfl (by decide) (by decide) ?_
            refine q_iconst rfl ?_
            refine v_zret rfl rfl (by decide) ?_
            refine bk_inl ?_
            refine v_if_eq_t (t := 85) rfl (by decide) (by decide) ?_
            refine q_vret rfl rfl ?_
            intro hE_1468
            have hW : Wd P Q P P c_1357 = Wd P Q P P m9 := (Prod.mk.inj (Prod.mk.inj hE_1468).2).1
            have h_1469 := ir_1_4 hJ9
            have h_1470 : m9 1 4 = c_1357 1 4 := wd_fv (z := 4) 4 rfl hW rfl rfl rfl rfl (by decide) rfl ⟨by omega, by omega⟩ ⟨by omega, by omega⟩
            have h_1471 := ir_1_2 hI_1358
            have h_1472 := ir_1_2 hJ9
            have h_1473 : m9 1 2 = c_1357 1 2 := wd_fv (z := 2) 2 rfl hW rfl rfl rfl rfl (by decide) rfl ⟨by omega, by omega⟩ ⟨by omega, by omega⟩
            have h_1474 := ir_1_5 hI_1358
            have h_1475 := ir_1_5 hJ9
            have h_1476 : m9 1 5 = c_1357 1 5 := wd_fv (z := 5) 5 rfl hW rfl rfl rfl rfl (by decide) rfl ⟨by omega, by omega⟩ ⟨by omega, by omega⟩
            have h_1477 := ir_p0_0 hI_1353 hA
            have kn_1478 : Hid (c_1357 A 0 = c_1352 A 0) := hF_1359 A 0 (fun q => q.elim (fun h => absurd h.1 (np0 hA rfl)) (fun q => q.elim (fun h => absurd h.1 (np0 hA rfl)) (fun h => absurd h.1 (np0 hA rfl))))
            have h_1479 := ir_p0_0 hJ9 hA
            have h_1480 : m9 A 0 = c_1352 A 0 := wd_fv (z := 0) 0 rfl hW (ck_p0 hA) (ck_p0 hA) rfl rfl (by omega) (hid kn_1478) ⟨by omega, by omega⟩ ⟨by omega, by omega⟩
            have h_1481 := ir_p0_1 hI_1353 hA
            have kn_1482 : Hid (c_1357 A 1 = c_1352 A 1) := hF_1359 A 1 (fun q => q.elim (fun h => absurd h.1 (np0 hA rfl)) (fun q => q.elim (fun h => absurd h.1 (np0 hA rfl)) (fun h => absurd h.1 (np0 hA rfl))))
            have h_1483 := ir_p0_1 hJ9 hA
            have h_1484 : m9 A 1 = c_1352 A 1 := wd_fv (z := 1) 1 rfl hW (ck_p0 hA) (ck_p0 hA) rfl rfl (by omega) (hid kn_1482) ⟨by omega, by omega⟩ ⟨by omega, by omega⟩
            have h_1485 := ir_p0_2 hI_1353 hA
            have kn_1486 : Hid (c_1357 A 2 = c_1352 A 2) := hF_1359 A 2 (fun q => q.elim (fun h => absurd h.1 (np0 hA rfl)) (fun q => q.elim (fun h => absurd h.1 (np0 hA rfl)) (fun h => absurd h.1 (np0 hA rfl))))
            have h_1487 := ir_p0_2 hJ9 hA
            have h_1488 : m9 A 2 = c_1352 A 2 := wd_fv (z := 2) 2 rfl hW (ck_p0 hA) (ck_p0 hA) rfl rfl (by omega) (hid kn_1486) ⟨by omega, by omega⟩ ⟨by omega, by omega⟩
            have h_1489 := ir_p0_3 hI_1353 hA
            have kn_1490 : Hid (c_1357 A 3 = c_1352 A 3) := hF_1359 A 3 (fun q => q.elim (fun h => absurd h.1 (np0 hA rfl)) (fun q => q.elim (fun h => absurd h.1 (np0 hA rfl)) (fun h => absurd h.1 (np0 hA rfl))))
            have h_1491 := ir_p0_3 hJ9 hA
            have h_1492 : m9 A 3 = c_1352 A 3 := wd_fv (z := 3) 3 rfl hW (ck_p0 hA) (ck_p0 hA) rfl rfl (by omega) (hid kn_1490) ⟨by omega, by omega⟩ ⟨by omega, by omega⟩
            refine q_aload_n rfl rfl ?_
            refine v_cv rfl rfl rfl rfl (by decide) ⟨⟨rfl, rfl⟩, by decide, rfl⟩ (Nat.le_of_ble_eq_true rfl) (Nat.le_of_ble_eq_true rfl) ?_
            refine q_aload_n rfl rfl ?_
            refine v_gi (z := 5) (v := (-1)) rfl rfl rfl (by decide) rfl rfl (hc_1) ?_
            refine q_iconst rfl ?_
            refine v_ic_ne_f (t := 12) rfl (by decide) (by decide) ?_
            refine q_iconst rfl ?_
            refine q_goto (t := 13) rfl (by decide) ?_
            refine v_zret rfl rfl (by decide) ?_
            refine bk_inl ?_
            refine v_if_eq_f (t := 136) rfl (by decide) (by decide) ?_
            refine q_aload_n rfl rfl ?_
            refine v_cv rfl rfl rfl rfl (by decide) ⟨⟨rfl, rfl⟩, by decide, rfl⟩ (Nat.le_of_ble_eq_true rfl) (Nat.le_of_ble_eq_true rfl) ?_
            refine q_aload_n rfl rfl ?_
            have kn_1493 : Hid (c2 41 3 = e1) := (hFc 41 3 (fun q => q.elim (fun h => absurd h.2 (ni rfl)) (fun q => q.elim (fun h => absurd h.2 (ni rfl)) (fun q => q.elim (fun h => absurd h.2 (ni rfl)) (fun q => q.elim (fun h => absurd h.2 (ni rfl)) (fun q => q.elim (fun h => absurd h.2 (ni rfl)) (fun q => q.elim (fun h => absurd h.2 (ni rfl)) (fun q => q.elim (fun h => absurd h.2 (ni rfl)) (fun q => q.elim (fun h => absurd h (nn rfl)) (fun q => q.elim (fun h => absurd h (nn rfl)) (fun h => absurd h (nn rfl)))))))))))).trans (hr_e1)
            have h_1494 : -2147483648 ≤ (H (nx F e1 a)) ∧ (H (nx F e1 a)) ≤ 2147483647 := by rw [← hH (nx F e1 a)]; exact ir_43 hI (nx F e1 a)
            have h_1495 := hU (nx F e1 a) (by omega) (by omega)
            have h_1496 := hb_or (b := H) (e := e1) (r := (nx F e1 a))
            have h_1497 := hb_bd (b := H) (e := e1) (r := (nx F e1 a)) (lo := -2147483648) (hi := 2147483647) ⟨by omega, by omega⟩ (by decide)
            refine v_cv rfl rfl rfl rfl (by decide) ⟨⟨rfl, rfl⟩, by decide, rfl⟩ (Nat.le_of_ble_eq_true rfl) (Nat.le_of_ble_eq_true rfl) (f_154 (e1 := e1) (a9 := a) (B := H) (r8 := (nx F e1 a)) (r := (hb H e1 (nx F e1 a))) hI2 ((hid kn_1493)) ((hr_a)) (fun j => (hFc 43 j (fun q => q.elim (fun h => absurd h.1 (nn rfl)) (fun q => q.elim (fun h => absurd h.1 (nn rfl)) (fun q => q.elim (fun h => absurd h.1 (nn rfl)) (fun q => q.elim (fun h => absurd h.1 (nn rfl)) (fun q => q.elim (fun h => absurd h.1 (nn rfl)) (fun q => q.elim (fun h => absurd h.1 (nn rfl)) (fun q => q.elim (fun h => absurd h.1 (nn rfl)) (fun q => q.elim (fun h => absurd h (nn rfl)) (fun q => q.elim (fun h => absurd h (nn rfl)) (fun h => absurd h (nn rfl)))))))))))).trans (hH j)) ((nx_tr hU (by omega) (by omega)).trans (rfl)) rfl (fun c_1498 hI_1499 hF_1500 h_1501 => ?_))
            refine bk_inl ?_
            refine q_pop rfl rfl ?_
            refine q_aload_n rfl rfl ?_
            refine v_gi (z := 4) (v := (nx F e1 a)) rfl rfl rfl (by decide) rfl rfl (h_1501) ?_
            refine q_aload_n rfl rfl ?_
            have kn_1502 : Hid (c_1498 41 3 = e1) := (hF_1500 41 3 (fun h => absurd h.2 (ni rfl))).trans (hid kn_1493)
            refine v_gi (z := 3) (v := e1) rfl rfl rfl (by decide) rfl rfl (hid kn_1502) ?_
            refine v_ic_ge_f (t := 20) rfl (by decide) (by omega) ?_
            refine q_iconst rfl ?_
            refine q_goto (t := 21) rfl (by decide) ?_
            refine v_zret rfl rfl (by decide) ?_
            refine bk_inl ?_
            refine v_if_eq_f (t := 136) rfl (by decide) (by decide) ?_
            refine q_aload_n rfl rfl ?_
            have h_1503 := wv_bd (b := F) (r := (nx F e1 a)) (l := (ln F e1 (nx F e1 a))) (fun j h1 h2 => ⟨(ln_in (e := e1) (a := (nx F e1 a)) h1 (by omega)).1, (ln_in (e := e1) (a := (nx F e1 a)) h1 (by omega)).2.1⟩)
            have h_1504 := wr8_3 (b := F) (r := (nx F e1 a)) (l := (ln F e1 (nx F e1 a))) (by omega) (fun j h1 h2 => ⟨(ln_in (e := e1) (a := (nx F e1 a)) h1 (by omega)).1, (ln_in (e := e1) (a := (nx F e1 a)) h1 (by omega)).2.1⟩) (by omega)
            refine v_cv rfl rfl rfl rfl (by decide) ⟨⟨rfl, rfl⟩, by decide, rfl⟩ (Nat.le_of_ble_eq_true rfl) (Nat.le_of_ble_eq_true rfl) (f_157 (e1 := e1) (a9 := (nx F e1 a)) (B := H) (r8 := (nx F e1 a)) (L8 := (ln F e1 (nx F e1 a))) (W8 := (wv F (nx F e1 a) (ln F e1 (nx F e1 a)))) hI_1499 ((hid kn_1502)) ((h_1501)) (fun j => ((hF_1500 43 j (fun h => absurd h.1 (nn rfl))).trans (hFc 43 j (fun q => q.elim (fun h => absurd h.1 (nn rfl)) (fun q => q.elim (fun h => absurd h.1 (nn rfl)) (fun q => q.elim (fun h => absurd h.1 (nn rfl)) (fun q => q.elim (fun h => absurd h.1 (nn rfl)) (fun q => q.elim (fun h => absurd h.1 (nn rfl)) (fun q => q.elim (fun h => absurd h.1 (nn rfl)) (fun q => q.elim (fun h => absurd h.1 (nn rfl)) (fun q => q.elim (fun h => absurd h (nn rfl)) (fun q => q.elim (fun h => absurd h (nn rfl)) (fun h => absurd h (nn rfl))))))))))))).trans (hH j)) ((nx_tr hU (by omega) (by omega)).trans ((nx_z (by omega)))) ((ln_tr hU (by omega) (by omega)).trans (rfl)) ((wv_tr hU (by omega) (by omega) (fun j h1 h2 => ⟨(ln_in (e := e1) (a := (nx F e1 a)) h1 (by omega)).1, (ln_in (e := e1) (a := (nx F e1 a)) h1 (by omega)).2.1⟩)).trans (rfl)) (fun c_1505 hI_1506 hF_1507 hz_1508 => ?_))
            refine bk_inl ?_
            refine q_istore_n rfl (by decide) ?_
            refine q_iload_n rfl rfl ?_
            refine q_call rfl rfl rfl rfl ?_
            refine q_iload_n rfl rfl ?_
            refine q_ldc_s rfl rfl rfl (by decide) ?_
            refine q_call rfl rfl rfl rfl (s_158_16 ?_)
            refine bk_inl ?_
            refine v_ic_eq_f (t := 36) rfl (by decide) (by omega) ?_
            refine q_iload_n rfl rfl ?_
            refine q_ldc_s rfl rfl rfl (by decide) ?_
            refine q_call rfl rfl rfl rfl (s_158_17 ?_)
            refine bk_inl ?_
            refine v_ic_eq_f (t := 36) rfl (by decide) (by omega) ?_
            refine q_iload_n rfl rfl ?_
            refine q_ldc_s rfl rfl rfl (by decide) ?_
            refine q_call rfl rfl rfl rfl (s_158_18 ?_)
            refine bk_inl ?_
            refine v_ic_eq_f (t := 36) rfl (by decide) (by omega) ?_
            refine q_iload_n rfl rfl ?_
            refine q_ldc_s rfl rfl rfl (by decide) ?_
            refine q_call rfl rfl rfl rfl (s_158_19 ?_)
            refine bk_inl ?_
            refine v_ic_ne_f (t := 40) rfl (by decide) (by omega) ?_
            refine q_iconst rfl ?_
            refine q_goto (t := 41) rfl (by decide) ?_
            refine v_zret rfl rfl (by decide) ?_
            refine bk_inl ?_
            refine v_if_ne_t (t := 82) rfl (by decide) (by decide) ?_
            refine q_iload_n rfl rfl ?_
            refine v_bip rfl (by decide) ?_
            refine v_ic_eq_f (t := 96) rfl (by decide) (by omega) ?_
            refine q_aload_n rfl rfl ?_
            refine q_iload_n rfl rfl ?_
            refine v_cv rfl rfl rfl rfl (by decide) ⟨⟨rfl, rfl⟩, by decide, rfl⟩ (Nat.le_of_ble_eq_true rfl) (Nat.le_of_ble_eq_true rfl) ?_
            refine q_iload_n rfl rfl ?_
            refine q_ldc_s rfl rfl rfl (by decide) ?_
            refine q_call rfl rfl rfl rfl (s_158_16 ?_)
            refine bk_inl ?_
            refine v_ic_ne_t (t := 26) rfl (by decide) (by omega) ?_
            refine q_iload_n rfl rfl ?_
            refine q_ldc_s rfl rfl rfl (by decide) ?_
            refine q_call rfl rfl rfl rfl (s_158_17 ?_)
            refine bk_inl ?_
            refine v_ic_ne_t (t := 51) rfl (by decide) (by omega) ?_
            refine q_iload_n rfl rfl ?_
            refine q_ldc_s rfl rfl rfl (by decide) ?_
            refine q_call rfl rfl rfl rfl (s_158_18 ?_)
            refine bk_inl ?_
            refine v_ic_ne_t (t := 72) rfl (by decide) (by omega) ?_
            refine q_iconst rfl ?_
            refine v_zret rfl rfl (by decide) ?_
            refine bk_inl ?_
            refine v_if_eq_t (t := 105) rfl (by decide) (by decide) ?_
            refine q_aload_n rfl rfl ?_
            refine v_cv rfl rfl rfl rfl (by decide) ⟨⟨rfl, rfl⟩, by decide, rfl⟩ (Nat.le_of_ble_eq_true rfl) (Nat.le_of_ble_eq_true rfl) ?_
            refine q_aload_n rfl rfl ?_
            have kn_1509 : Hid (c_1498 41 5 = (-1)) := (hF_1500 41 5 (fun h => absurd h.2 (ni rfl))).trans (hc_1)
            have kn_1510 : Hid (c_1505 41 5 = (-1)) := (hF_1507 41 5 (fun h => absurd h.2 (ni rfl))).trans (hid kn_1509)
            refine v_gi (z := 5) (v := (-1)) rfl rfl rfl (by decide) rfl rfl (hid kn_1510) ?_
            refine q_iconst rfl ?_
            refine v_ic_ne_f (t := 12) rfl (by decide) (by decide) ?_
            refine q_iconst rfl ?_
            refine q_goto (t := 13) rfl (by decide) ?_
            refine v_zret rfl rfl (by decide) ?_
            refine bk_inl ?_
            refine v_if_ne_t (t := 115) rfl (by decide) (by decide) ?_
            refine q_aload_n rfl rfl ?_
            have kn_1511 : Hid (c_1505 41 3 = e1) := (hF_1507 41 3 (fun h => absurd h.2 (ni rfl))).trans (hid kn_1502)
            refine v_cv rfl rfl rfl rfl (by decide) ⟨⟨rfl, rfl⟩, by decide, rfl⟩ (Nat.le_of_ble_eq_true rfl) (Nat.le_of_ble_eq_true rfl) (f_159 (e1 := e1) (a9 := (nx F e1 a)) (B := H) (L8 := (ln F e1 (nx F e1 a))) hI_1506 ((hid kn_1511)) ((hz_1508)) (fun j => ((hF_1507 43 j (fun h => absurd h.1 (nn rfl))).trans ((hF_1500 43 j (fun h => absurd h.1 (nn rfl))).trans (hFc 43 j (fun q => q.elim (fun h => absurd h.1 (nn rfl)) (fun q => q.elim (fun h => absurd h.1 (nn rfl)) (fun q => q.elim (fun h => absurd h.1 (nn rfl)) (fun q => q.elim (fun h => absurd h.1 (nn rfl)) (fun q => q.elim (fun h => absurd h.1 (nn rfl)) (fun q => q.elim (fun h => absurd h.1 (nn rfl)) (fun q => q.elim (fun h => absurd h.1 (nn rfl)) (fun q => q.elim (fun h => absurd h (nn rfl)) (fun q => q.elim (fun h => absurd h (nn rfl)) (fun h => absurd h (nn rfl)))))))))))))).trans (hH j)) ((ln_tr hU (by omega) (by omega)).trans (rfl)) (fun c_1512 hI_1513 hF_1514 hz_1515 => ?_))
            refine bk_inl ?_
            refine q_aload_n rfl rfl ?_
            refine q_iload_n rfl rfl ?_
            have hw_1516 : (wv F (nx F e1 a) (ln F e1 (nx F e1 a))) = 153204 := by omega
            rw [hw_1516]
            have kn_1517 : Hid (c_112 1 1 = e1) := (hF_114 1 1 (fun q => q.elim (fun h => absurd h.2 (ni rfl)) (fun q => q.elim (fun h => absurd h.2 (ni rfl)) (fun h => absurd h.2 (ni rfl))))).trans (hid kn_91)
            have kn_1518 : Hid (c_1512 41 3 = e1) := (hF_1514 41 3 (fun h => absurd h.2 (ni rfl))).trans (hid kn_1511)
            have kn_1519 : Hid (c_1498 41 16 = jr) := (hF_1500 41 16 (fun h => absurd h.2 (ni rfl))).trans (hr_jr)
            have kn_1520 : Hid (c_1505 41 16 = jr) := (hF_1507 41 16 (fun h => absurd h.2 (ni rfl))).trans (hid kn_1519)
            have kn_1521 : Hid (c_1512 41 16 = jr) := (hF_1514 41 16 (fun h => absurd h.2 (ni rfl))).trans (hid kn_1520)
            have kn_1522 : Hid (c_1498 41 17 = st) := (hF_1500 41 17 (fun h => absurd h.2 (ni rfl))).trans (hr_st)
            have kn_1523 : Hid (c_1505 41 17 = st) := (hF_1507 41 17 (fun h => absurd h.2 (ni rfl))).trans (hid kn_1522)
            have kn_1524 : Hid (c_1512 41 17 = st) := (hF_1514 41 17 (fun h => absurd h.2 (ni rfl))).trans (hid kn_1523)
            have kn_1525 : Hid (c_1498 41 18 = si) := (hF_1500 41 18 (fun h => absurd h.2 (ni rfl))).trans (hr_si)
            have kn_1526 : Hid (c_1505 41 18 = si) := (hF_1507 41 18 (fun h => absurd h.2 (ni rfl))).trans (hid kn_1525)
            have kn_1527 : Hid (c_1512 41 18 = si) := (hF_1514 41 18 (fun h => absurd h.2 (ni rfl))).trans (hid kn_1526)
            have kn_1528 : Hid (c_27 A 3 = du) := (hF_29 A 3 (fun h => absurd h.1 (np0 hA rfl))).trans (hg_du)
            have kn_1529 : Hid (c_87 A 3 = du) := (hF_89 A 3 (fun h => absurd h.1 (np0 hA rfl))).trans (hid kn_1528)
            have kn_1530 : Hid (c_112 A 3 = du) := (hF_114 A 3 (fun q => q.elim (fun h => absurd h.1 (np0 hA rfl)) (fun q => q.elim (fun h => absurd h.1 (np0 hA rfl)) (fun h => absurd h.1 (np0 hA rfl))))).trans (hid kn_1529)
            have kn_1531 : Hid (c_1498 41 19 = du) := (hF_1500 41 19 (fun h => absurd h.2 (ni rfl))).trans (hr_du)
            have kn_1532 : Hid (c_1505 41 19 = du) := (hF_1507 41 19 (fun h => absurd h.2 (ni rfl))).trans (hid kn_1531)
            have kn_1533 : Hid (c_1512 41 19 = du) := (hF_1514 41 19 (fun h => absurd h.2 (ni rfl))).trans (hid kn_1532)
            have h_1534 : c_112 1 4 = 0 := (hz_118)
            have h_1535 : c_112 1 2 = (ln F e1 (nx F e1 a)) := (hz_117)
            have h_1536 : c_112 1 5 = (-1) := (hz_119)
            have kn_1537 : Hid (c_1512 41 5 = (-1)) := (hF_1514 41 5 (fun h => absurd h.2 (ni rfl))).trans (hid kn_1510)
            have h_1538 : c_1512 41 5 = (-1) := (hid kn_1537)
            have h_1539 : c_1512 41 4 = (ln F e1 (nx F e1 a)) := (hz_1515)
            have h_1540 := ir_41_6 hI2
            have kn_1541 : Hid (c_1498 41 6 = c2 41 6) := hF_1500 41 6 (fun h => absurd h.2 (ni rfl))
            have kn_1542 : Hid (c_1505 41 6 = c2 41 6) := (hF_1507 41 6 (fun h => absurd h.2 (ni rfl))).trans (hid kn_1541)
            have kn_1543 : Hid (c_1512 41 6 = c2 41 6) := (hF_1514 41 6 (fun h => absurd h.2 (ni rfl))).trans (hid kn_1542)
            have h_1544 : c_1512 41 6 = c2 41 6 := (hid kn_1543)
            have hA_1545 : Ae (4 * jr) (c_112 (A + 1)) (c_1512 44) := ae_fr hrl0 (fun j => (hF_114 (A + 1) j (fun q => q.elim (fun h => absurd h.1 (np hA rfl rfl)) (fun q => q.elim (fun h => absurd h.1 (np hA rfl rfl)) (fun h => absurd h.1 (np hA rfl rfl))))).trans ((hF_89 (A + 1) j (fun h => absurd h.1 (np hA rfl rfl))).trans (hF_29 (A + 1) j (fun h => absurd h.1 (np hA rfl rfl))))) (fun j => (hF_1514 44 j (fun h => absurd h.1 (nn rfl))).trans ((hF_1507 44 j (fun h => absurd h.1 (nn rfl))).trans (hF_1500 44 j (fun h => absurd h.1 (nn rfl)))))
            have hA_1546 : Ae (3 * st) (c_112 (A + 2)) (c_1512 45) := ae_fr hrl1 (fun j => (hF_114 (A + 2) j (fun q => q.elim (fun h => absurd h.1 (np hA rfl rfl)) (fun q => q.elim (fun h => absurd h.1 (np hA rfl rfl)) (fun h => absurd h.1 (np hA rfl rfl))))).trans ((hF_89 (A + 2) j (fun h => absurd h.1 (np hA rfl rfl))).trans (hF_29 (A + 2) j (fun h => absurd h.1 (np hA rfl rfl))))) (fun j => (hF_1514 45 j (fun h => absurd h.1 (nn rfl))).trans ((hF_1507 45 j (fun h => absurd h.1 (nn rfl))).trans (hF_1500 45 j (fun h => absurd h.1 (nn rfl)))))
            have hA_1547 : Ae si (c_112 (A + 3)) (c_1512 46) := ae_fr hrl2 (fun j => (hF_114 (A + 3) j (fun q => q.elim (fun h => absurd h.1 (np hA rfl rfl)) (fun q => q.elim (fun h => absurd h.1 (np hA rfl rfl)) (fun h => absurd h.1 (np hA rfl rfl))))).trans ((hF_89 (A + 3) j (fun h => absurd h.1 (np hA rfl rfl))).trans (hF_29 (A + 3) j (fun h => absurd h.1 (np hA rfl rfl))))) (fun j => (hF_1514 46 j (fun h => absurd h.1 (nn rfl))).trans ((hF_1507 46 j (fun h => absurd h.1 (nn rfl))).trans (hF_1500 46 j (fun h => absurd h.1 (nn rfl)))))
            refine v_cv rfl rfl rfl rfl (by decide) ⟨⟨rfl, rfl⟩, by decide, rfl⟩ (Nat.le_of_ble_eq_true rfl) (Nat.le_of_ble_eq_true rfl) (L_33a_3 (m := c_112) (e1 := e1) (jr := jr) (st := st) (si := si) (du := du) (F := F) (H := H) hI_1513 hI_113 hI_1353 hA ((hid kn_1517)) ((hid kn_1518)) ((hid kn_1342)) ((hid kn_1521)) ((hid kn_1346)) ((hid kn_1524)) ((hid kn_1350)) ((hid kn_1527)) ((hid kn_1530)) ((hid kn_1533)) (fun j => ((hF_114 2 j (fun q => q.elim (fun h => absurd h.1 (nn rfl)) (fun q => q.elim (fun h => absurd h.1 (nn rfl)) (fun h => absurd h.1 (nn rfl))))).trans ((hF_89 2 j (fun h => absurd h.1 (nn rfl))).trans ((hF_29 2 j (fun h => absurd h.1 (nn rfl))).trans (hFm 2 j (fun q => q.elim (fun h => absurd h.1 (nn rfl)) (fun q => q.elim (fun h => absurd h.1 (nn rfl)) (fun q => q.elim (fun h => absurd h.1 (nn rfl)) (fun q => q.elim (fun h => absurd h.1 (pn0 hA rfl)) (fun q => q.elim (fun h => absurd h.1 (pn0 hA rfl)) (fun q => q.elim (fun h => absurd h.1 (pn0 hA rfl)) (fun q => q.elim (fun h => absurd h.1 (pn0 hA rfl)) (fun q => q.elim (fun h => absurd h (pn hA rfl rfl)) (fun q => q.elim (fun h => absurd h (pn hA rfl rfl)) (fun q => q.elim (fun h => absurd h (pn hA rfl rfl)) (fun q => q.elim (fun h => absurd h.1 (pn0 hA rfl)) (fun q => q.elim (fun h => absurd h.1 (pn0 hA rfl)) (fun q => q.elim (fun h => absurd h (pn hA rfl rfl)) (fun h => absurd h.1 (pn hA rfl rfl))))))))))))))))))).trans (hF j)) (fun j => ((hF_1514 43 j (fun h => absurd h.1 (nn rfl))).trans ((hF_1507 43 j (fun h => absurd h.1 (nn rfl))).trans ((hF_1500 43 j (fun h => absurd h.1 (nn rfl))).trans (hFc 43 j (fun q => q.elim (fun h => absurd h.1 (nn rfl)) (fun q => q.elim (fun h => absurd h.1 (nn rfl)) (fun q => q.elim (fun h => absurd h.1 (nn rfl)) (fun q => q.elim (fun h => absurd h.1 (nn rfl)) (fun q => q.elim (fun h => absurd h.1 (nn rfl)) (fun q => q.elim (fun h => absurd h.1 (nn rfl)) (fun q => q.elim (fun h => absurd h.1 (nn rfl)) (fun q => q.elim (fun h => absurd h (nn rfl)) (fun q => q.elim (fun h => absurd h (nn rfl)) (fun h => absurd h (nn rfl))))))))))))))).trans (hH j)) hU (by unfold Rt; omega) (ae_le hA_1545 (by omega)) (ae_le hA_1546 (by omega)) (ae_le hA_1547 (by omega)) hG_1355 (fun c_1548 hI_1549 hF_1550 hR_1552 h_1553 h_1554 h_1555 h_1556 hA_1557 hA_1558 hA_1559 => ?_))
            refine bk_inl ?_
            have h_1560 := ir_41_16 hI_1549
            have h_1561 := ir_41_17 hI_1549
            have h_1562 := ir_41_18 hI_1549
            have h_1563 := ir_41_19 hI_1549
            refine q_aload_n rfl rfl ?_
            refine v_bip rfl (by decide) ?_
            have kn_1564 : Hid (c_1352 1 1 = e1) := (hF_1354 1 1 (fun q => q.elim (fun h => absurd h.2 (ni rfl)) (fun q => q.elim (fun h => absurd h.2 (ni rfl)) (fun q => q.elim (fun h => absurd h.2 (ni rfl)) (fun q => q.elim (fun h => absurd h.1 (pn0 hA rfl)) (fun q => q.elim (fun h => absurd h.1 (pn0 hA rfl)) (fun q => q.elim (fun h => absurd h.1 (pn0 hA rfl)) (fun q => q.elim (fun h => absurd h.1 (pn0 hA rfl)) (fun q => q.elim (fun h => absurd h (pn hA rfl rfl)) (fun q => q.elim (fun h => absurd h (pn hA rfl rfl)) (fun h => absurd h (pn hA rfl rfl)))))))))))).trans (hid kn_1517)
            have kn_1565 : Hid (c_1548 41 3 = e1) := (hF_1550 41 3 (fun q => q.elim (fun h => absurd h.2 (ni rfl)) (fun q => q.elim (fun h => absurd h.2 (ni rfl)) (fun q => q.elim (fun h => absurd h.2 (ni rfl)) (fun q => q.elim (fun h => absurd h.2 (ni rfl)) (fun q => q.elim (fun h => absurd h.2 (ni rfl)) (fun q => q.elim (fun h => absurd h.2 (ni rfl)) (fun q => q.elim (fun h => absurd h.2 (ni rfl)) (fun q => q.elim (fun h => absurd h (nn rfl)) (fun q => q.elim (fun h => absurd h (nn rfl)) (fun h => absurd h (nn rfl)))))))))))).trans (hid kn_1518)
            have h_1566 := ir_1_2 hI_1353
            refine v_cv rfl rfl rfl rfl (by decide) ⟨⟨rfl, rfl⟩, by decide, rfl⟩ (Nat.le_of_ble_eq_true rfl) (Nat.le_of_ble_eq_true rfl) (L_11_9 (m := c_1352) (e1 := e1) (a9 := c_1352 1 2) (F := F) (H := H) hI_1549 hI_1353 hI_1358 ((hid kn_1564)) ((hid kn_1565)) (rfl) (fun j => ((hF_1354 2 j (fun q => q.elim (fun h => absurd h.1 (nn rfl)) (fun q => q.elim (fun h => absurd h.1 (nn rfl)) (fun q => q.elim (fun h => absurd h.1 (nn rfl)) (fun q => q.elim (fun h => absurd h.1 (pn0 hA rfl)) (fun q => q.elim (fun h => absurd h.1 (pn0 hA rfl)) (fun q => q.elim (fun h => absurd h.1 (pn0 hA rfl)) (fun q => q.elim (fun h => absurd h.1 (pn0 hA rfl)) (fun q => q.elim (fun h => absurd h (pn hA rfl rfl)) (fun q => q.elim (fun h => absurd h (pn hA rfl rfl)) (fun h => absurd h (pn hA rfl rfl)))))))))))).trans ((hF_114 2 j (fun q => q.elim (fun h => absurd h.1 (nn rfl)) (fun q => q.elim (fun h => absurd h.1 (nn rfl)) (fun h => absurd h.1 (nn rfl))))).trans ((hF_89 2 j (fun h => absurd h.1 (nn rfl))).trans ((hF_29 2 j (fun h => absurd h.1 (nn rfl))).trans (hFm 2 j (fun q => q.elim (fun h => absurd h.1 (nn rfl)) (fun q => q.elim (fun h => absurd h.1 (nn rfl)) (fun q => q.elim (fun h => absurd h.1 (nn rfl)) (fun q => q.elim (fun h => absurd h.1 (pn0 hA rfl)) (fun q => q.elim (fun h => absurd h.1 (pn0 hA rfl)) (fun q => q.elim (fun h => absurd h.1 (pn0 hA rfl)) (fun q => q.elim (fun h => absurd h.1 (pn0 hA rfl)) (fun q => q.elim (fun h => absurd h (pn hA rfl rfl)) (fun q => q.elim (fun h => absurd h (pn hA rfl rfl)) (fun q => q.elim (fun h => absurd h (pn hA rfl rfl)) (fun q => q.elim (fun h => absurd h.1 (pn0 hA rfl)) (fun q => q.elim (fun h => absurd h.1 (pn0 hA rfl)) (fun q => q.elim (fun h => absurd h (pn hA rfl rfl)) (fun h => absurd h.1 (pn hA rfl rfl)))))))))))))))))))).trans (hF j)) (fun j => ((hF_1550 43 j (fun q => q.elim (fun h => absurd h.1 (nn rfl)) (fun q => q.elim (fun h => absurd h.1 (nn rfl)) (fun q => q.elim (fun h => absurd h.1 (nn rfl)) (fun q => q.elim (fun h => absurd h.1 (nn rfl)) (fun q => q.elim (fun h => absurd h.1 (nn rfl)) (fun q => q.elim (fun h => absurd h.1 (nn rfl)) (fun q => q.elim (fun h => absurd h.1 (nn rfl)) (fun q => q.elim (fun h => absurd h (nn rfl)) (fun q => q.elim (fun h => absurd h (nn rfl)) (fun h => absurd h (nn rfl)))))))))))).trans ((hF_1514 43 j (fun h => absurd h.1 (nn rfl))).trans ((hF_1507 43 j (fun h => absurd h.1 (nn rfl))).trans ((hF_1500 43 j (fun h => absurd h.1 (nn rfl))).trans (hFc 43 j (fun q => q.elim (fun h => absurd h.1 (nn rfl)) (fun q => q.elim (fun h => absurd h.1 (nn rfl)) (fun q => q.elim (fun h => absurd h.1 (nn rfl)) (fun q => q.elim (fun h => absurd h.1 (nn rfl)) (fun q => q.elim (fun h => absurd h.1 (nn rfl)) (fun q => q.elim (fun h => absurd h.1 (nn rfl)) (fun q => q.elim (fun h => absurd h.1 (nn rfl)) (fun q => q.elim (fun h => absurd h (nn rfl)) (fun q => q.elim (fun h => absurd h (nn rfl)) (fun h => absurd h (nn rfl)))))))))))))))).trans (hH j)) hU hR_1552 hG_1360 (fun c_1567 hI_1568 hF_1569 hR_1571 h_1572 => ?_))
            refine bk_inl ?_
            refine v_iinc (v := v + 1) rfl rfl (by decide) (by omega) ?_
            refine q_goto (t := 44) rfl (by decide) ?_
            refine q_aload_n rfl rfl ?_
            refine v_cv rfl rfl rfl rfl (by decide) ⟨⟨rfl, rfl⟩, by decide, rfl⟩ (Nat.le_of_ble_eq_true rfl) (Nat.le_of_ble_eq_true rfl) ?_
            refine q_aload_n rfl rfl ?_
            have h_1573 := ir_41_5 hI_1568
            have h_1574 := ir_41_4 hI_1568
            have h_1575 := ir_41_6 hI_1568
            have h_1576 := rt_bad hR_1571 (by omega)
            have hrb_hR_1571 := rt_bad hR_1571 (by omega)
            refine v_gi (z := 5) (v := c_1357 1 5) rfl rfl rfl (by decide) rfl rfl hrb_hR_1571.2.1 ?_
            refine q_iconst rfl ?_
            refine v_ic_ne_t (t := 12) rfl (by decide) (by omega) ?_
            refine q_iconst rfl ?_
            refine v_zret rfl rfl (by decide) ?_
            refine bk_inl ?_
            refine v_if_eq_t (t := 136) rfl (by decide) (by decide) ?_
            refine Wp_ls [(0, .ref 41), (1, vi a1)] (lsub_cons rfl (lsub_cons rfl lsub_nil)) ?_
            have h_1577 : c_1567 41 5 = c_1357 1 5 := hrb_hR_1571.2.1
            have h_1578 : c_1567 41 6 = c_1357 1 4 := hrb_hR_1571.2.2.2
            have kn_1579 : Hid (c_1567 41 16 = c_1548 41 16) := hF_1569 41 16 (fun q => q.elim (fun h => absurd h.2 (ni rfl)) (fun q => q.elim (fun h => absurd h.2 (ni rfl)) (fun h => absurd h.2 (ni rfl))))
            have h_1580 : c_1567 41 16 = c_1548 41 16 := (hid kn_1579)
            have kn_1581 : Hid (c_1567 41 17 = c_1548 41 17) := hF_1569 41 17 (fun q => q.elim (fun h => absurd h.2 (ni rfl)) (fun q => q.elim (fun h => absurd h.2 (ni rfl)) (fun h => absurd h.2 (ni rfl))))
            have h_1582 : c_1567 41 17 = c_1548 41 17 := (hid kn_1581)
            have kn_1583 : Hid (c_1567 41 18 = c_1548 41 18) := hF_1569 41 18 (fun q => q.elim (fun h => absurd h.2 (ni rfl)) (fun q => q.elim (fun h => absurd h.2 (ni rfl)) (fun h => absurd h.2 (ni rfl))))
            have h_1584 : c_1567 41 18 = c_1548 41 18 := (hid kn_1583)
            have kn_1585 : Hid (c_1567 41 19 = c_1548 41 19) := hF_1569 41 19 (fun q => q.elim (fun h => absurd h.2 (ni rfl)) (fun q => q.elim (fun h => absurd h.2 (ni rfl)) (fun h => absurd h.2 (ni rfl))))
            have h_1586 : c_1567 41 19 = c_1548 41 19 := (hid kn_1585)
            have h_1587 : c_1567 41 16 = c_1548 41 16 := (hid kn_1579)
            have h_1588 : c_1567 41 17 = c_1548 41 17 := (hid kn_1581)
            have h_1589 : c_1567 41 18 = c_1548 41 18 := (hid kn_1583)
            exact K c_1567  hI_1568 (fun a j hm => (hF_1569 a j (fun q => q.elim (fun h => hm (Or.inl h)) (fun q => q.elim (fun h => hm (Or.inr (Or.inl h))) (fun h => hm (Or.inr (Or.inr (Or.inl h))))))).trans ((hF_1550 a j (fun q => q.elim (fun h => hm (Or.inl h)) (fun q => q.elim (fun h => hm (Or.inr (Or.inl h))) (fun q => q.elim (fun h => hm (Or.inr (Or.inr (Or.inl h)))) (fun q => q.elim (fun h => hm (Or.inr (Or.inr (Or.inr (Or.inl h))))) (fun q => q.elim (fun h => hm (Or.inr (Or.inr (Or.inr (Or.inr (Or.inl h)))))) (fun q => q.elim (fun h => hm (Or.inr (Or.inr (Or.inr (Or.inr (Or.inr (Or.inl h))))))) (fun q => q.elim (fun h => hm (Or.inr (Or.inr (Or.inr (Or.inr (Or.inr (Or.inr (Or.inl h)))))))) (fun q => q.elim (fun h => hm (Or.inr (Or.inr (Or.inr (Or.inr (Or.inr (Or.inr (Or.inr (Or.inl h))))))))) (fun q => q.elim (fun h => hm (Or.inr (Or.inr (Or.inr (Or.inr (Or.inr (Or.inr (Or.inr (Or.inr (Or.inl h)))))))))) (fun h => hm (Or.inr (Or.inr (Or.inr (Or.inr (Or.inr (Or.inr (Or.inr (Or.inr (Or.inr h)))))))))))))))))))).trans ((hF_1514 a j (fun h => hm (Or.inl h))).trans ((hF_1507 a j (fun h => hm (Or.inl h))).trans ((hF_1500 a j (fun h => hm (Or.inl h))).trans (hFc a j (fun q => q.elim (fun h => hm (Or.inl h)) (fun q => q.elim (fun h => hm (Or.inr (Or.inl h))) (fun q => q.elim (fun h => hm (Or.inr (Or.inr (Or.inl h)))) (fun q => q.elim (fun h => hm (Or.inr (Or.inr (Or.inr (Or.inl h))))) (fun q => q.elim (fun h => hm (Or.inr (Or.inr (Or.inr (Or.inr (Or.inl h)))))) (fun q => q.elim (fun h => hm (Or.inr (Or.inr (Or.inr (Or.inr (Or.inr (Or.inl h))))))) (fun q => q.elim (fun h => hm (Or.inr (Or.inr (Or.inr (Or.inr (Or.inr (Or.inr (Or.inl h)))))))) (fun q => q.elim (fun h => hm (Or.inr (Or.inr (Or.inr (Or.inr (Or.inr (Or.inr (Or.inr (Or.inl h))))))))) (fun q => q.elim (fun h => hm (Or.inr (Or.inr (Or.inr (Or.inr (Or.inr (Or.inr (Or.inr (Or.inr (Or.inl h)))))))))) (fun h => hm (Or.inr (Or.inr (Or.inr (Or.inr (Or.inr (Or.inr (Or.inr (Or.inr (Or.inr h))))))))))))))))))))))))) (by unfold Rt; omega) (by omega) (fun hz => absurd hz (by omega)) (fun hz => absurd hz (by omega)) (fun hz => absurd hz (by omega))
set_option maxRecDepth 100000 in
set_option maxHeartbeats 4000000 in
theorem L_34a {sc : List Int32} {e eg : Int} {d dh u ug P Q P2 Q2 A : Nat} {c m m9 : ME} {a1 e1 f0 g0 z0 z1 z2 z3 : Int} {F H : Int → Int} {Z : AR → Prop} (hI : Iv u e P2 Q2 c) (hJ : Iv ug eg P Q m) (hJ9 : Iv ug eg P Q m9) (hA : A = 13 ∨ A = 25) (ha1 : (-2147483648) ≤ a1 ∧ a1 ≤ 2147483647) (hq0 : (f0 = 0)) (hq1 : (g0 = (-1))) (hq2 : (z0 = 0)) (hq3 : (z1 = 0)) (hq4 : (z2 = 0)) (hq5 : (z3 = 5)) (hg_e1 : m 1 1 = e1) (hr_e1 : c 41 3 = e1) (hg_f0 : m 1 4 = f0) (hg_g0 : m 1 5 = g0) (hr_z0 : c 41 16 = z0) (hr_z1 : c 41 17 = z1) (hr_z2 : c 41 18 = z2) (hr_z3 : c 41 19 = z3) (hF : ∀ j : Int, m 2 j = F j) (hH : ∀ j : Int, c 43 j = H j) (hU : Ub F H) (hRt : Rt m c) (hG : Wp sc (dh + 30) 34 0 [(0, .ref A), (1, .ref 1)] [] (Wd P Q P P m) 0 0 (fun q => q = (.inl (none), Wd P Q P P m9, 0, 0))) (K : ∀ (c2 : ME), Iv u e P2 Q2 c2 → (∀ (a : Nat) (j : Int), ¬ ((a = 41 ∧ j = 4) ∨ (a = 41 ∧ j = 5) ∨ (a = 41 ∧ j = 6) ∨ (a = 41 ∧ j = 16) ∨ (a = 41 ∧ j = 17) ∨ (a = 41 ∧ j = 18) ∨ (a = 41 ∧ j = 19) ∨ a = 44 ∨ a = 45 ∨ a = 46) → c2 a j = c a j) → (Rt m9 c2) → ((m9 1 4 < 0) ∨ (m9 1 4 > 0) ∨ (m9 A 0 = c2 41 16 ∧ m9 A 1 = c2 41 17 ∧ m9 A 2 = c2 41 18 ∧ m9 A 3 = c2 41 19)) → (m9 1 4 = 0 → Ae (4 * c2 41 16) (m9 (A + 1)) (c2 44)) → (m9 1 4 = 0 → Ae (3 * c2 41 17) (m9 (A + 2)) (c2 45)) → (m9 1 4 = 0 → Ae (c2 41 18) (m9 (A + 3)) (c2 46)) → Wp sc (d + 22) 169 136 [(0, .ref 41), (1, vi a1)] [] (Wd P2 Q2 P2 P2 c2) 0 0 Z) : Wp sc (d + 22) 169 44 [(0, .ref 41), (1, vi a1), (2, vi 0)] [] (Wd P2 Q2 P2 P2 c) 0 0 Z := by
  have hP := iv_P hJ
  have hQ := iv_Q hJ
  have h_1590 := ir_1_1 hJ
  have h_1591 := ir_41_3 hI
  have h_1592 := ir_1_4 hJ
  have h_1593 := ir_1_5 hJ
  have h_1594 := ir_41_16 hI
  have h_1595 := ir_41_17 hI
  have h_1596 := ir_41_18 hI
  have h_1597 := ir_41_19 hI
  refine gh hG ?_
  refine q_aload_n rfl rfl ?_
  refine v_cv rfl rfl rfl (ck_p0 hA) (by omega) ⟨⟨rfl, rfl⟩, by decide, rfl⟩ (Nat.le_of_ble_eq_true rfl) (Nat.le_of_ble_eq_true rfl) (s_30 hJ hA (fun c_1598 hI_1599 hF_1600 h_1601 h_1602 => ?_))
  refine bk_inl ?_
  have h_1603 := ir_p0_0 hI_1599 hA
  have h_1604 := ir_p0_1 hI_1599 hA
  have h_1605 := ir_p0_2 hI_1599 hA
  have h_1606 := ir_p0_3 hI_1599 hA
  have h_1607 := ir_p0_4 hI_1599 hA
  have h_1608 := ir_p0_5 hI_1599 hA
  have h_1609 := ir_p7_4 hI_1599 hA
  refine q_iconst rfl ?_
  refine q_istore_n rfl (by decide) ?_
  have kn_1610 : Hid (c_1598 1 4 = f0) := (hF_1600 1 4 (fun q => q.elim (fun h => absurd h.1 (pn0 hA rfl)) (fun q => q.elim (fun h => absurd h.1 (pn0 hA rfl)) (fun q => q.elim (fun h => absurd h.1 (pn0 hA rfl)) (fun q => q.elim (fun h => absurd h.1 (pn0 hA rfl)) (fun q => q.elim (fun h => absurd h.1 (pn0 hA rfl)) (fun q => q.elim (fun h => absurd h.1 (pn0 hA rfl)) (fun q => q.elim (fun h => absurd h (pn hA rfl rfl)) (fun h => absurd h.1 (pn hA rfl rfl)))))))))).trans (hg_f0)
  refine Wp_ls [(0, .ref A), (1, .ref 1), (2, vi 0)] (lsub_cons rfl (lsub_cons rfl (lsub_cons rfl lsub_nil))) ?_
  refine gh_stop (s_34_l (sc := sc) (d := dh + 18) (c := c_1598) (Z := fun _ => True) hI_1599 hA (fun _ _ _ => trivial) 124 c_1598 0 hI_1599 (fun a j hm => rfl) ⟨by omega, by omega⟩ (by omega)) (fun hG_1611 => ?_)
  refine Wp_ls [(0, .ref 41), (1, vi a1), (2, vi 0)] (lsub_cons rfl (lsub_cons rfl (lsub_cons rfl lsub_nil))) ?_
  have h_1612 := ir_1_2 hJ
  have kn_1613 : Hid (c_1598 1 2 = m 1 2) := hF_1600 1 2 (fun q => q.elim (fun h => absurd h.1 (pn0 hA rfl)) (fun q => q.elim (fun h => absurd h.1 (pn0 hA rfl)) (fun q => q.elim (fun h => absurd h.1 (pn0 hA rfl)) (fun q => q.elim (fun h => absurd h.1 (pn0 hA rfl)) (fun q => q.elim (fun h => absurd h.1 (pn0 hA rfl)) (fun q => q.elim (fun h => absurd h.1 (pn0 hA rfl)) (fun q => q.elim (fun h => absurd h (pn hA rfl rfl)) (fun h => absurd h.1 (pn hA rfl rfl)))))))))
  have h_1614 := ir_41_4 hI
  have h_1615 := ir_41_5 hI
  have h_1616 := ir_41_6 hI
  have h_1617 := rt_ok hRt (by omega)
  have hro_hRt := rt_ok hRt (by omega)
  have kn_1618 : Hid (c_1598 1 5 = g0) := (hF_1600 1 5 (fun q => q.elim (fun h => absurd h.1 (pn0 hA rfl)) (fun q => q.elim (fun h => absurd h.1 (pn0 hA rfl)) (fun q => q.elim (fun h => absurd h.1 (pn0 hA rfl)) (fun q => q.elim (fun h => absurd h.1 (pn0 hA rfl)) (fun q => q.elim (fun h => absurd h.1 (pn0 hA rfl)) (fun q => q.elim (fun h => absurd h.1 (pn0 hA rfl)) (fun q => q.elim (fun h => absurd h (pn hA rfl rfl)) (fun h => absurd h.1 (pn hA rfl rfl)))))))))).trans (hg_g0)
  have hA_1619 : Ae (4 * c_1598 A 0) (c_1598 (A + 1)) (c 44) := ae_z (by omega)
  have hA_1620 : Ae (3 * c_1598 A 1) (c_1598 (A + 2)) (c 45) := ae_z (by omega)
  have hA_1621 : Ae (c_1598 A 2) (c_1598 (A + 3)) (c 46) := ae_z (by omega)
  exact (L_34a_l (sc := sc) (d := d) (dh := dh) hI hJ hJ9 hA ha1 hq0 hq1 hq2 hq3 hq4 hq5 hg_e1 hr_e1 hg_f0 hg_g0 hr_z0 hr_z1 hr_z2 hr_z3 hF hH hU hRt K 62) c c_1598 0 (m 1 2) (c_1598 A 0) (c_1598 A 1) (c_1598 A 2) (c_1598 A 3) hI (fun a j hm => rfl) hI_1599 (fun a j hm => hF_1600 a j (fun q => q.elim (fun h => hm (Or.inr (Or.inr (Or.inr (Or.inl h))))) (fun q => q.elim (fun h => hm (Or.inr (Or.inr (Or.inr (Or.inr (Or.inl h)))))) (fun q => q.elim (fun h => hm (Or.inr (Or.inr (Or.inr (Or.inr (Or.inr (Or.inl h))))))) (fun q => q.elim (fun h => hm (Or.inr (Or.inr (Or.inr (Or.inr (Or.inr (Or.inr (Or.inl h)))))))) (fun q => q.elim (fun h => hm (Or.inr (Or.inr (Or.inr (Or.inr (Or.inr (Or.inr (Or.inr (Or.inr (Or.inr (Or.inr (Or.inl h)))))))))))) (fun q => q.elim (fun h => hm (Or.inr (Or.inr (Or.inr (Or.inr (Or.inr (Or.inr (Or.inr (Or.inr (Or.inr (Or.inr (Or.inr (Or.inl h))))))))))))) (fun q => q.elim (fun h => hm (Or.inr (Or.inr (Or.inr (Or.inr (Or.inr (Or.inr (Or.inr (Or.inr (Or.inr (Or.inr (Or.inr (Or.inr (Or.inl h)))))))))))))) (fun h => hm (Or.inr (Or.inr (Or.inr (Or.inr (Or.inr (Or.inr (Or.inr (Or.inr (Or.inr (Or.inr (Or.inr (Or.inr (Or.inr h)))))))))))))))))))))) ⟨by omega, by omega⟩ ⟨by omega, by omega⟩ ⟨by omega, by omega⟩ ⟨by omega, by omega⟩ ⟨by omega, by omega⟩ ⟨by omega, by omega⟩ ((hid kn_1613)) (hro_hRt.2.2.1) (rfl) ((show _ = z0 from (hr_z0)).trans (by omega)) (rfl) ((show _ = z1 from (hr_z1)).trans (by omega)) (rfl) ((show _ = z2 from (hr_z2)).trans (by omega)) (rfl) ((show _ = z3 from (hr_z3)).trans (by omega)) ((show _ = f0 from (hid kn_1610)).trans (by omega)) (hro_hRt.2.1) ((show _ = g0 from (hid kn_1618)).trans (by omega)) (ae_le hA_1619 (by omega)) (ae_le hA_1620 (by omega)) (ae_le hA_1621 (by omega)) hG_1611 (by omega)

set_option maxRecDepth 100000 in
set_option maxHeartbeats 4000000 in
theorem L_84s {sc : List Int32} {d dh P Q P2 Q2 P9 Q9 : Nat} {c m m9 : ME} {a1 yg t9 n0 n1 n2 n3 : Int} {F H : Int → Int} {Z : AR → Prop} (hI : Iv 0 (-1) P2 Q2 c) (hJ : Iv 0 (-1) P Q m) (hJ9 : Iv 0 (-1) P9 Q9 m9) (ha1 : (-2147483648) ≤ a1 ∧ a1 ≤ 2147483647) (hyg : (-2147483648) ≤ yg ∧ yg ≤ 2147483647) (hq0 : (a1 ≥ 0 ∧ a1 ≤ t9 ∧ a1 ≤ 600)) (hg_t9 : m 1 3 = t9) (hr_t9 : c 41 2 = t9) (hg_n0 : m P 0 = n0) (hr_n0 : c 41 20 = n0) (hg_n1 : m P 1 = n1) (hr_n1 : c 41 21 = n1) (hg_n2 : m P 2 = n2) (hr_n2 : c 41 22 = n2) (hg_n3 : m P 3 = n3) (hr_n3 : c 41 23 = n3) (hF : ∀ j : Int, m 2 j = F j) (hH : ∀ j : Int, c 43 j = H j) (hU : Ub F H) (hr0 : Ae (3 * n1) (m (P + 2)) (c 48)) (hr1 : Ae n2 (m (P + 3)) (c 49)) (hG : Wp sc (dh + 50) 84 0 [(0, .ref 0), (1, vi a1)] [] (Wd P Q P P m) 0 0 (fun q => q = (.inl (some (vi yg)), Wd P9 Q9 P9 P9 m9, 0, 0))) (K : ∀ (c2 : ME) (y : Int), Iv 0 (-1) P2 Q2 c2 → (∀ (a : Nat) (j : Int), ¬ ((a = 41 ∧ j = 0) ∨ a = 42 ∨ (a = 41 ∧ j = 2) ∨ (a = 41 ∧ j = 3) ∨ (a = 41 ∧ j = 4) ∨ (a = 41 ∧ j = 5) ∨ (a = 41 ∧ j = 6) ∨ (a = 41 ∧ j = 7) ∨ (a = 41 ∧ j = 8) ∨ (a = 41 ∧ j = 16) ∨ (a = 41 ∧ j = 17) ∨ (a = 41 ∧ j = 18) ∨ (a = 41 ∧ j = 19) ∨ a = 44 ∨ a = 45 ∨ a = 46 ∨ (a = 41 ∧ j = 20) ∨ (a = 41 ∧ j = 21) ∨ (a = 41 ∧ j = 22) ∨ (a = 41 ∧ j = 23) ∨ (a = 41 ∧ j = 30) ∨ (a = 41 ∧ j = 35) ∨ (a = 41 ∧ j = 36) ∨ (a = 41 ∧ j = 47) ∨ (a = 41 ∧ j = 48) ∨ (a = 41 ∧ j = 52) ∨ a = 47 ∨ a = 48 ∨ a = 49 ∨ a = 58 ∨ a = 64) → c2 a j = c a j) → (-2147483648) ≤ y ∧ y ≤ 2147483647 → ((y = yg)) → ((c2 41 2 = 0)) → ((c2 41 8 = m9 1 5)) → ((c2 41 0 = 0)) → ((m9 P9 0 = c2 41 20)) → ((m9 P9 1 = c2 41 21)) → ((m9 P9 2 = c2 41 22)) → ((m9 P9 3 = c2 41 23)) → (Ae (3 * c2 41 21) (m9 (P9 + 2)) (c2 48)) → (Ae (c2 41 22) (m9 (P9 + 3)) (c2 49)) → Z (.inl (some (vi y)), Wd P2 Q2 P2 P2 c2, 0, 0)) : Wp sc (d + 40) 169 0 [(0, .ref 41), (1, vi a1)] [] (Wd P2 Q2 P2 P2 c) 0 0 Z := by
  have hP := iv_P hJ
  have hQ := iv_Q hJ
  have h_1 := ir_1_3 hJ
  have h_2 := ir_41_2 hI
  have h_3 := ir_p0_0 hJ hP
  have h_4 := ir_41_20 hI
  have h_5 := ir_p0_1 hJ hP
  have h_6 := ir_41_21 hI
  have h_7 := ir_p0_2 hJ hP
  have h_8 := ir_41_22 hI
  have h_9 := ir_p0_3 hJ hP
  have h_10 := ir_41_23 hI
  have hpq := iv_pq hJ
  unfold Pq at hpq
  refine gh hG ?_
  refine q_aload_n rfl rfl ?_
  refine q_iload_n rfl rfl ?_
  refine v_sip rfl (by decide) ?_
  refine v_cv rfl rfl rfl rfl (by decide) ⟨⟨rfl, rfl⟩, by decide, rfl⟩ (Nat.le_of_ble_eq_true rfl) (Nat.le_of_ble_eq_true rfl) ?_
  refine q_aload_n rfl rfl ?_
  refine q_iload_n rfl rfl ?_
  refine q_iconst rfl ?_
  refine q_iload_n rfl rfl ?_
  refine q_aload_n rfl rfl ?_
  refine v_gr (t := 1) rfl rfl rfl (by decide) rfl ?_
  refine v_gi (z := 3) (v := t9) rfl rfl rfl (by decide) rfl rfl (hg_t9) ?_
  refine v_min_g rfl rfl (by omega) (Nat.le_of_ble_eq_true rfl) (by omega) ?_
  refine q_call rfl rfl rfl rfl ?_
  refine q_iload_n rfl rfl ?_
  refine q_iload_n rfl rfl ?_
  refine v_ic_lt_f (t := 14) rfl (by decide) (by omega) ?_
  refine q_iload_n rfl rfl ?_
  refine q_iload_n rfl rfl ?_
  refine v_ic_gt_f (t := 14) rfl (by decide) (by omega) ?_
  refine q_iconst rfl ?_
  refine q_goto (t := 15) rfl (by decide) ?_
  refine v_zret rfl rfl (by decide) ?_
  refine bk_inl ?_
  refine v_cv rfl rfl rfl rfl (by decide) ⟨⟨rfl, rfl⟩, by decide, rfl⟩ (Nat.le_of_ble_eq_true rfl) (Nat.le_of_ble_eq_true rfl) ?_
  refine q_iload_n rfl rfl ?_
  refine v_if_ne_t (t := 25) rfl (by decide) (by decide) ?_
  refine q_vret rfl rfl ?_
  refine bk_inl ?_
  refine q_aload_n rfl rfl ?_
  refine v_gr (t := 1) rfl rfl rfl (by decide) rfl ?_
  refine q_iload_n rfl rfl ?_
  refine v_cv rfl rfl rfl rfl (by decide) ⟨⟨rfl, rfl⟩, by decide, rfl⟩ (Nat.le_of_ble_eq_true rfl) (Nat.le_of_ble_eq_true rfl) ?_
  refine q_aload_n rfl rfl ?_
  refine q_iload_n rfl rfl ?_
  refine q_aload_n rfl rfl ?_
  refine v_gi (z := 3) (v := t9) rfl rfl rfl (by decide) rfl rfl (hg_t9) ?_
  refine v_minx rfl rfl (by omega) (Nat.le_of_ble_eq_true rfl) ⟨by omega, by omega, by omega, by omega⟩ (fun y_11 hy_11 => ?_)
  refine v_pi (z := 1) rfl rfl rfl (by decide) rfl rfl rfl (by decide) ?_
  refine q_aload_n rfl rfl ?_
  refine q_iconst rfl ?_
  refine v_pi (z := 2) rfl rfl rfl (by decide) rfl rfl rfl (by decide) ?_
  refine q_aload_n rfl rfl ?_
  refine q_iconst rfl ?_
  refine v_pi (z := 3) rfl rfl rfl (by decide) rfl rfl rfl (by decide) ?_
  refine q_aload_n rfl rfl ?_
  refine q_iconst rfl ?_
  refine v_pi (z := 4) rfl rfl rfl (by decide) rfl rfl rfl (by decide) ?_
  refine q_aload_n rfl rfl ?_
  refine q_iconst rfl ?_
  refine v_pi (z := 5) rfl rfl rfl (by decide) rfl rfl rfl (by decide) ?_
  refine q_vret rfl rfl ?_
  refine bk_inl ?_
  refine q_vret rfl rfl ?_
  refine bk_inl ?_
  refine q_aload_n rfl rfl ?_
  refine v_gr (t := Q) rfl rfl rfl (by decide) rfl ?_
  refine q_aload_n rfl rfl ?_
  refine v_gr (t := 1) rfl rfl rfl (by decide) rfl ?_
  have hI_12 := iw_1_1 (v := y_11) hJ ⟨by omega, by omega⟩
  have hI_13 := iw_1_2 (v := 0) hI_12 ⟨by decide, by decide⟩
  have hI_14 := iw_1_3 (v := 0) hI_13 ⟨by decide, by decide⟩
  have hI_15 := iw_1_4 (v := 0) hI_14 ⟨by decide, by decide⟩
  have hI_16 := iw_1_5 (v := (-1)) hI_15 ⟨by decide, by decide⟩
  refine v_cv rfl rfl rfl (ck_p0 hQ) (by omega) ⟨⟨rfl, rfl⟩, by decide, rfl⟩ (Nat.le_of_ble_eq_true rfl) (Nat.le_of_ble_eq_true rfl) (fn_of (s_34 hI_16 hQ (fun c_17 hI_18 hF_19 => ?_)))
  intro hG_20
  refine bk_inl ?_
  refine q_aload_n rfl rfl ?_
  refine v_gr (t := 1) rfl rfl rfl (by decide) rfl ?_
  refine v_cv rfl rfl rfl rfl (by decide) ⟨⟨rfl, rfl⟩, by decide, rfl⟩ (Nat.le_of_ble_eq_true rfl) (Nat.le_of_ble_eq_true rfl) ?_
  refine q_aload_n rfl rfl ?_
  have h_21 := ir_1_4 hI_18
  refine v_gi (z := 4) (v := c_17 1 4) rfl rfl rfl (by decide) rfl rfl rfl ?_
  by_cases h_22 : c_17 1 4 ≠ 0
  · refine v_if_ne_t (t := 11) rfl (by decide) (by omega) ?_
    refine q_iconst rfl ?_
    refine v_zret rfl rfl (by decide) ?_
    refine bk_inl ?_
    refine v_if_eq_t (t := 81) rfl (by decide) (by decide) ?_
    refine q_aload_n rfl rfl ?_
    refine q_aload_n rfl rfl ?_
    refine v_gr (t := P) rfl rfl rfl (by decide) rfl ?_
    have kn_23 : Hid (c_17 P 0 = n0) := (hF_19 P 0 (by omega)).trans ((up_c (np0 hP rfl)).trans ((up_c (np0 hP rfl)).trans ((up_c (np0 hP rfl)).trans ((up_c (np0 hP rfl)).trans ((up_c (np0 hP rfl)).trans (hg_n0))))))
    refine v_gi (z := 0) (v := n0) rfl rfl (ck_p0 hP) (by omega) rfl rfl (hid kn_23) ?_
    refine v_cv rfl rfl rfl rfl (by decide) ⟨⟨rfl, rfl⟩, by decide, rfl⟩ (Nat.le_of_ble_eq_true rfl) (Nat.le_of_ble_eq_true rfl) ?_
    refine q_aload_n rfl rfl ?_
    refine v_gr (t := 1) rfl rfl rfl (by decide) rfl ?_
    refine v_cv rfl rfl rfl rfl (by decide) ⟨⟨rfl, rfl⟩, by decide, rfl⟩ (Nat.le_of_ble_eq_true rfl) (Nat.le_of_ble_eq_true rfl) ?_
    refine q_aload_n rfl rfl ?_
    refine v_gi (z := 4) (v := c_17 1 4) rfl rfl rfl (by decide) rfl rfl rfl ?_
    refine v_if_ne_t (t := 11) rfl (by decide) (by omega) ?_
    refine q_iconst rfl ?_
    refine v_zret rfl rfl (by decide) ?_
    refine bk_inl ?_
    refine v_if_eq_t (t := 14) rfl (by decide) (by decide) ?_
    refine q_aload_n rfl rfl ?_
    refine v_gr (t := 1) rfl rfl rfl (by decide) rfl ?_
    refine v_gi (z := 4) (v := c_17 1 4) rfl rfl rfl (by decide) rfl rfl rfl ?_
    refine v_bip rfl (by decide) ?_
    refine v_isub (v := c_17 1 4 - 10) rfl (by omega) ?_
    refine q_iret rfl rfl ?_
    refine bk_inl ?_
    refine q_iret rfl rfl ?_
    intro hE_24
    have h_25 : yg = c_17 1 4 - 10 := (vi_inj ⟨by omega, by omega⟩ ⟨by omega, by omega⟩ (Option.some.inj (Sum.inl.inj (Prod.mk.inj hE_24).1))).symm
    have hW : Wd P Q P P c_17 = Wd P9 Q9 P9 P9 m9 := (Prod.mk.inj (Prod.mk.inj hE_24).2).1
    obtain ⟨hp9, hq9⟩ := wd_pq hW
    subst hp9
    subst hq9
    have h_26 := ir_1_5 hI_18
    have h_27 := ir_1_5 hJ9
    have h_28 : m9 1 5 = c_17 1 5 := wd_fv (z := 5) 5 rfl hW rfl rfl rfl rfl (by decide) rfl ⟨by omega, by omega⟩ ⟨by omega, by omega⟩
    have h_29 := ir_p0_0 hJ9 hP
    have h_30 : m9 P 0 = n0 := wd_fv (z := 0) 0 rfl hW (ck_A hP) (ck_A hP) rfl rfl (by omega) (hid kn_23) ⟨by omega, by omega⟩ ⟨by omega, by omega⟩
    have kn_31 : Hid (c_17 P 1 = n1) := (hF_19 P 1 (by omega)).trans ((up_c (np0 hP rfl)).trans ((up_c (np0 hP rfl)).trans ((up_c (np0 hP rfl)).trans ((up_c (np0 hP rfl)).trans ((up_c (np0 hP rfl)).trans (hg_n1))))))
    have h_32 := ir_p0_1 hJ9 hP
    have h_33 : m9 P 1 = n1 := wd_fv (z := 1) 1 rfl hW (ck_A hP) (ck_A hP) rfl rfl (by omega) (hid kn_31) ⟨by omega, by omega⟩ ⟨by omega, by omega⟩
    have kn_34 : Hid (c_17 P 2 = n2) := (hF_19 P 2 (by omega)).trans ((up_c (np0 hP rfl)).trans ((up_c (np0 hP rfl)).trans ((up_c (np0 hP rfl)).trans ((up_c (np0 hP rfl)).trans ((up_c (np0 hP rfl)).trans (hg_n2))))))
    have h_35 := ir_p0_2 hJ9 hP
    have h_36 : m9 P 2 = n2 := wd_fv (z := 2) 2 rfl hW (ck_A hP) (ck_A hP) rfl rfl (by omega) (hid kn_34) ⟨by omega, by omega⟩ ⟨by omega, by omega⟩
    have kn_37 : Hid (c_17 P 3 = n3) := (hF_19 P 3 (by omega)).trans ((up_c (np0 hP rfl)).trans ((up_c (np0 hP rfl)).trans ((up_c (np0 hP rfl)).trans ((up_c (np0 hP rfl)).trans ((up_c (np0 hP rfl)).trans (hg_n3))))))
    have h_38 := ir_p0_3 hJ9 hP
    have h_39 : m9 P 3 = n3 := wd_fv (z := 3) 3 rfl hW (ck_A hP) (ck_A hP) rfl rfl (by omega) (hid kn_37) ⟨by omega, by omega⟩ ⟨by omega, by omega⟩
    refine q_aload_n rfl rfl ?_
    refine q_iconst rfl ?_
    refine v_pi (z := 0) rfl rfl rfl (by decide) rfl rfl rfl (by decide) ?_
    refine q_aload_n rfl rfl ?_
    refine q_iload_n rfl rfl ?_
    refine v_if_lt_f (t := 22) rfl (by decide) (by omega) ?_
    refine q_iload_n rfl rfl ?_
    refine q_aload_n rfl rfl ?_
    refine v_gi (z := 2) (v := t9) rfl rfl rfl (by decide) rfl rfl ((up_n (by decide)).trans (hr_t9)) ?_
    refine v_ic_gt_f (t := 22) rfl (by decide) (by omega) ?_
    refine q_iconst rfl ?_
    refine q_goto (t := 23) rfl (by decide) ?_
    refine q_iconst rfl ?_
    refine q_iconst rfl ?_
    refine v_cv rfl rfl rfl rfl (by decide) ⟨⟨rfl, rfl⟩, by decide, rfl⟩ (Nat.le_of_ble_eq_true rfl) (Nat.le_of_ble_eq_true rfl) ?_
    refine q_iload_n rfl rfl ?_
    refine v_if_ne_t (t := 26) rfl (by decide) (by decide) ?_
    refine q_aload_n rfl rfl ?_
    refine v_gi (z := 0) (v := 0) rfl rfl rfl (by decide) rfl rfl (up_e rfl) ?_
    refine v_if_ne_f (t := 37) rfl (by decide) (by decide) ?_
    refine q_iconst rfl ?_
    refine q_goto (t := 38) rfl (by decide) ?_
    refine v_zret rfl rfl (by decide) ?_
    refine bk_inl ?_
    refine v_if_ne_t (t := 33) rfl (by decide) (by decide) ?_
    refine q_aload_n rfl rfl ?_
    refine q_iload_n rfl rfl ?_
    have hI_40 := iw_41_0 (v := 0) hI ⟨by decide, by decide⟩
    refine v_cv rfl rfl rfl rfl (by decide) ⟨⟨rfl, rfl⟩, by decide, rfl⟩ (Nat.le_of_ble_eq_true rfl) (Nat.le_of_ble_eq_true rfl) (s_163 (a1 := a1) hI_40 (show 0 ≤ a1 ∧ a1 ≤ 600 from by omega) (fun c_41 hI_42 hF_43 h_44 => ?_))
    refine bk_inl ?_
    have h_45 := ir_41_2 hI_42
    have h_46 := ir_41_3 hI_42
    have h_47 := ir_41_4 hI_42
    have h_48 := ir_41_5 hI_42
    have h_49 := ir_41_7 hI_42
    refine q_aload_n rfl rfl ?_
    refine v_cv rfl rfl rfl rfl (by decide) ⟨⟨rfl, rfl⟩, by decide, rfl⟩ (Nat.le_of_ble_eq_true rfl) (Nat.le_of_ble_eq_true rfl) (s_147 hI_42 (fun c_50 hI_51 hF_52 h_53 => ?_))
    refine bk_inl ?_
    have h_54 := ir_41_16 hI_51
    have h_55 := ir_41_17 hI_51
    have h_56 := ir_41_18 hI_51
    have h_57 := ir_41_19 hI_51
    refine q_iconst rfl ?_
    refine q_istore_n rfl (by decide) ?_
    refine Wp_ls [(0, .ref 41), (1, vi a1), (2, vi 0)] (lsub_cons rfl (lsub_cons rfl (lsub_cons rfl lsub_nil))) ?_
    have kn_58 : Hid (c_50 41 3 = c_41 41 3) := hF_52 41 3 (fun q => q.elim (fun h => absurd h.2 (ni rfl)) (fun q => q.elim (fun h => absurd h.2 (ni rfl)) (fun q => q.elim (fun h => absurd h.2 (ni rfl)) (fun h => absurd h.2 (ni rfl)))))
    have h_59 : (up (up (up (up (up m 1 1 y_11) 1 2 0) 1 3 0) 1 4 0) 1 5 (-1)) 1 4 = 0 := ((up_n (by decide)).trans (up_e rfl))
    have h_60 : (up (up (up (up (up m 1 1 y_11) 1 2 0) 1 3 0) 1 4 0) 1 5 (-1)) 1 2 = 0 := ((up_n (by decide)).trans ((up_n (by decide)).trans ((up_n (by decide)).trans (up_e rfl))))
    have h_61 : (up (up (up (up (up m 1 1 y_11) 1 2 0) 1 3 0) 1 4 0) 1 5 (-1)) 1 5 = (-1) := (up_e rfl)
    have kn_62 : Hid (c_50 41 5 = c_41 41 5) := hF_52 41 5 (fun q => q.elim (fun h => absurd h.2 (ni rfl)) (fun q => q.elim (fun h => absurd h.2 (ni rfl)) (fun q => q.elim (fun h => absurd h.2 (ni rfl)) (fun h => absurd h.2 (ni rfl)))))
    have h_63 : c_50 41 5 = c_41 41 5 := (hid kn_62)
    have kn_64 : Hid (c_50 41 4 = c_41 41 4) := hF_52 41 4 (fun q => q.elim (fun h => absurd h.2 (ni rfl)) (fun q => q.elim (fun h => absurd h.2 (ni rfl)) (fun q => q.elim (fun h => absurd h.2 (ni rfl)) (fun h => absurd h.2 (ni rfl)))))
    have h_65 : c_50 41 4 = c_41 41 4 := (hid kn_64)
    have h_66 := ir_41_6 hI
    have kn_67 : Hid (c_41 41 6 = c 41 6) := (hF_43 41 6 (fun q => q.elim (fun h => absurd h.2 (ni rfl)) (fun q => q.elim (fun h => absurd h.2 (ni rfl)) (fun q => q.elim (fun h => absurd h.2 (ni rfl)) (fun q => q.elim (fun h => absurd h.2 (ni rfl)) (fun q => q.elim (fun h => absurd h.2 (ni rfl)) (fun h => absurd h.2 (ni rfl)))))))).trans (up_n (by decide))
    have kn_68 : Hid (c_50 41 6 = c 41 6) := (hF_52 41 6 (fun q => q.elim (fun h => absurd h.2 (ni rfl)) (fun q => q.elim (fun h => absurd h.2 (ni rfl)) (fun q => q.elim (fun h => absurd h.2 (ni rfl)) (fun h => absurd h.2 (ni rfl)))))).trans (hid kn_67)
    have h_69 : c_50 41 6 = c 41 6 := (hid kn_68)
    refine L_34a (m := up (up (up (up (up m 1 1 y_11) 1 2 0) 1 3 0) 1 4 0) 1 5 (-1)) (a1 := a1) (e1 := y_11) (f0 := 0) (g0 := (-1)) (z0 := c_50 41 16) (z1 := c_50 41 17) (z2 := c_50 41 18) (z3 := c_50 41 19) (F := F) (H := H) hI_51 hI_16 hI_18 hQ (show (-2147483648) ≤ a1 ∧ a1 ≤ 2147483647 from by omega) (by omega) (by omega) (by omega) (by omega) (by omega) (by omega) (((up_n (by decide)).trans ((up_n (by decide)).trans ((up_n (by decide)).trans ((up_n (by decide)).trans (up_e rfl)))))) (((show _ = c_41 41 3 from (hid kn_58)).trans (by omega))) (((up_n (by decide)).trans (up_e rfl))) ((up_e rfl)) (rfl) (rfl) (rfl) (rfl) (fun j => ((up_c (nn rfl)).trans ((up_c (nn rfl)).trans ((up_c (nn rfl)).trans ((up_c (nn rfl)).trans (up_c (nn rfl)))))).trans (hF j)) (fun j => ((hF_52 43 j (fun q => q.elim (fun h => absurd h.1 (nn rfl)) (fun q => q.elim (fun h => absurd h.1 (nn rfl)) (fun q => q.elim (fun h => absurd h.1 (nn rfl)) (fun h => absurd h.1 (nn rfl)))))).trans ((hF_43 43 j (fun q => q.elim (fun h => absurd h.1 (nn rfl)) (fun q => q.elim (fun h => absurd h.1 (nn rfl)) (fun q => q.elim (fun h => absurd h.1 (nn rfl)) (fun q => q.elim (fun h => absurd h.1 (nn rfl)) (fun q => q.elim (fun h => absurd h.1 (nn rfl)) (fun h => absurd h.1 (nn rfl)))))))).trans (up_c (nn rfl)))).trans (hH j)) hU (by unfold Rt; omega) hG_20 (fun c_70 hI_71 hF_72 hR_74 h_75 hA_76 hA_77 hA_78 => ?_)
    have h_79 := ir_41_16 hI_71
    have h_80 := ir_41_17 hI_71
    have h_81 := ir_41_18 hI_71
    have h_82 := ir_41_19 hI_71
    have h_83 := ir_p0_0 hI_18 hQ
    have h_84 := ir_p0_1 hI_18 hQ
    have h_85 := ir_p0_2 hI_18 hQ
    have h_86 := ir_p0_3 hI_18 hQ
    refine q_aload_n rfl rfl ?_
    refine q_aload_n rfl rfl ?_
    refine v_gi (z := 16) (v := c_70 41 16) rfl rfl rfl (by decide) rfl rfl rfl ?_
    refine v_cv rfl rfl rfl rfl (by decide) ⟨⟨rfl, rfl⟩, by decide, rfl⟩ (Nat.le_of_ble_eq_true rfl) (Nat.le_of_ble_eq_true rfl) ?_
    refine q_aload_n rfl rfl ?_
    refine q_aload_n rfl rfl ?_
    have h_87 := ir_41_5 hI_71
    have h_88 := ir_1_2 hI_18
    have h_89 := ir_41_4 hI_71
    have h_90 := ir_41_6 hI_71
    have h_91 := rt_bad hR_74 (by omega)
    have hrb_hR_74 := rt_bad hR_74 (by omega)
    refine v_gi (z := 5) (v := c_17 1 5) rfl rfl rfl (by decide) rfl rfl hrb_hR_74.2.1 ?_
    refine v_pi (z := 8) rfl rfl rfl (by decide) rfl rfl rfl (by decide) ?_
    refine q_aload_n rfl rfl ?_
    refine v_cv rfl rfl rfl rfl (by decide) ⟨⟨rfl, rfl⟩, by decide, rfl⟩ (Nat.le_of_ble_eq_true rfl) (Nat.le_of_ble_eq_true rfl) ?_
    refine q_aload_n rfl rfl ?_
    refine v_gi (z := 5) (v := c_17 1 5) rfl rfl rfl (by decide) rfl rfl (((up_n (by decide))).trans (hrb_hR_74.2.1)) ?_
    refine q_iconst rfl ?_
    refine v_ic_ne_t (t := 12) rfl (by decide) (by omega) ?_
    refine q_iconst rfl ?_
    refine v_zret rfl rfl (by decide) ?_
    refine bk_inl ?_
    refine v_if_eq_t (t := 19) rfl (by decide) (by decide) ?_
    refine q_aload_n rfl rfl ?_
    refine v_gi (z := 6) (v := c_17 1 4) rfl rfl rfl (by decide) rfl rfl (((up_n (by decide))).trans (hrb_hR_74.2.2.2)) ?_
    refine v_bip rfl (by decide) ?_
    refine v_isub (v := c_17 1 4 - 10) rfl (by omega) ?_
    refine q_iret rfl rfl ?_
    refine bk_inl ?_
    refine q_istore_n rfl (by decide) ?_
    refine q_aload_n rfl rfl ?_
    refine v_gi (z := 5) (v := c_17 1 5) rfl rfl rfl (by decide) rfl rfl (((up_n (by decide))).trans (hrb_hR_74.2.1)) ?_
    refine q_iconst rfl ?_
    refine v_ic_ne_t (t := 157) rfl (by decide) (by omega) ?_
    refine q_iload_n rfl rfl ?_
    refine q_iret rfl rfl ?_
    have hI_92 := iw_41_8 (v := c_17 1 5) hI_71 ⟨by omega, by omega⟩
    have kn_93 : Hid (c_50 41 2 = c_41 41 2) := hF_52 41 2 (fun q => q.elim (fun h => absurd h.2 (ni rfl)) (fun q => q.elim (fun h => absurd h.2 (ni rfl)) (fun q => q.elim (fun h => absurd h.2 (ni rfl)) (fun h => absurd h.2 (ni rfl)))))
    have kn_94 : Hid (c_70 41 2 = c_41 41 2) := (hF_72 41 2 (fun q => q.elim (fun h => absurd h.2 (ni rfl)) (fun q => q.elim (fun h => absurd h.2 (ni rfl)) (fun q => q.elim (fun h => absurd h.2 (ni rfl)) (fun q => q.elim (fun h => absurd h.2 (ni rfl)) (fun q => q.elim (fun h => absurd h.2 (ni rfl)) (fun q => q.elim (fun h => absurd h.2 (ni rfl)) (fun q => q.elim (fun h => absurd h.2 (ni rfl)) (fun q => q.elim (fun h => absurd h (nn rfl)) (fun q => q.elim (fun h => absurd h (nn rfl)) (fun h => absurd h (nn rfl)))))))))))).trans (hid kn_93)
    have h_95 : (up c_70 41 8 (c_17 1 5)) 41 2 = c_41 41 2 := ((up_n (by decide)).trans (hid kn_94))
    have h_96 : (up c_70 41 8 (c_17 1 5)) 41 8 = c_17 1 5 := (up_e rfl)
    have kn_97 : Hid (c_41 41 0 = 0) := (hF_43 41 0 (fun q => q.elim (fun h => absurd h.2 (ni rfl)) (fun q => q.elim (fun h => absurd h.2 (ni rfl)) (fun q => q.elim (fun h => absurd h.2 (ni rfl)) (fun q => q.elim (fun h => absurd h.2 (ni rfl)) (fun q => q.elim (fun h => absurd h.2 (ni rfl)) (fun h => absurd h.2 (ni rfl)))))))).trans (up_e rfl)
    have kn_98 : Hid (c_50 41 0 = 0) := (hF_52 41 0 (fun q => q.elim (fun h => absurd h.2 (ni rfl)) (fun q => q.elim (fun h => absurd h.2 (ni rfl)) (fun q => q.elim (fun h => absurd h.2 (ni rfl)) (fun h => absurd h.2 (ni rfl)))))).trans (hid kn_97)
    have kn_99 : Hid (c_70 41 0 = 0) := (hF_72 41 0 (fun q => q.elim (fun h => absurd h.2 (ni rfl)) (fun q => q.elim (fun h => absurd h.2 (ni rfl)) (fun q => q.elim (fun h => absurd h.2 (ni rfl)) (fun q => q.elim (fun h => absurd h.2 (ni rfl)) (fun q => q.elim (fun h => absurd h.2 (ni rfl)) (fun q => q.elim (fun h => absurd h.2 (ni rfl)) (fun q => q.elim (fun h => absurd h.2 (ni rfl)) (fun q => q.elim (fun h => absurd h (nn rfl)) (fun q => q.elim (fun h => absurd h (nn rfl)) (fun h => absurd h (nn rfl)))))))))))).trans (hid kn_98)
    have h_100 : (up c_70 41 8 (c_17 1 5)) 41 0 = 0 := ((up_n (by decide)).trans (hid kn_99))
    have kn_101 : Hid (c_41 41 20 = n0) := (hF_43 41 20 (fun q => q.elim (fun h => absurd h.2 (ni rfl)) (fun q => q.elim (fun h => absurd h.2 (ni rfl)) (fun q => q.elim (fun h => absurd h.2 (ni rfl)) (fun q => q.elim (fun h => absurd h.2 (ni rfl)) (fun q => q.elim (fun h => absurd h.2 (ni rfl)) (fun h => absurd h.2 (ni rfl)))))))).trans ((up_n (by decide)).trans (hr_n0))
    have kn_102 : Hid (c_50 41 20 = n0) := (hF_52 41 20 (fun q => q.elim (fun h => absurd h.2 (ni rfl)) (fun q => q.elim (fun h => absurd h.2 (ni rfl)) (fun q => q.elim (fun h => absurd h.2 (ni rfl)) (fun h => absurd h.2 (ni rfl)))))).trans (hid kn_101)
    have kn_103 : Hid (c_70 41 20 = n0) := (hF_72 41 20 (fun q => q.elim (fun h => absurd h.2 (ni rfl)) (fun q => q.elim (fun h => absurd h.2 (ni rfl)) (fun q => q.elim (fun h => absurd h.2 (ni rfl)) (fun q => q.elim (fun h => absurd h.2 (ni rfl)) (fun q => q.elim (fun h => absurd h.2 (ni rfl)) (fun q => q.elim (fun h => absurd h.2 (ni rfl)) (fun q => q.elim (fun h => absurd h.2 (ni rfl)) (fun q => q.elim (fun h => absurd h (nn rfl)) (fun q => q.elim (fun h => absurd h (nn rfl)) (fun h => absurd h (nn rfl)))))))))))).trans (hid kn_102)
    have h_104 : (up c_70 41 8 (c_17 1 5)) 41 20 = n0 := ((up_n (by decide)).trans (hid kn_103))
    have kn_105 : Hid (c_41 41 21 = n1) := (hF_43 41 21 (fun q => q.elim (fun h => absurd h.2 (ni rfl)) (fun q => q.elim (fun h => absurd h.2 (ni rfl)) (fun q => q.elim (fun h => absurd h.2 (ni rfl)) (fun q => q.elim (fun h => absurd h.2 (ni rfl)) (fun q => q.elim (fun h => absurd h.2 (ni rfl)) (fun h => absurd h.2 (ni rfl)))))))).trans ((up_n (by decide)).trans (hr_n1))
    have kn_106 : Hid (c_50 41 21 = n1) := (hF_52 41 21 (fun q => q.elim (fun h => absurd h.2 (ni rfl)) (fun q => q.elim (fun h => absurd h.2 (ni rfl)) (fun q => q.elim (fun h => absurd h.2 (ni rfl)) (fun h => absurd h.2 (ni rfl)))))).trans (hid kn_105)
    have kn_107 : Hid (c_70 41 21 = n1) := (hF_72 41 21 (fun q => q.elim (fun h => absurd h.2 (ni rfl)) (fun q => q.elim (fun h => absurd h.2 (ni rfl)) (fun q => q.elim (fun h => absurd h.2 (ni rfl)) (fun q => q.elim (fun h => absurd h.2 (ni rfl)) (fun q => q.elim (fun h => absurd h.2 (ni rfl)) (fun q => q.elim (fun h => absurd h.2 (ni rfl)) (fun q => q.elim (fun h => absurd h.2 (ni rfl)) (fun q => q.elim (fun h => absurd h (nn rfl)) (fun q => q.elim (fun h => absurd h (nn rfl)) (fun h => absurd h (nn rfl)))))))))))).trans (hid kn_106)
    have h_108 : (up c_70 41 8 (c_17 1 5)) 41 21 = n1 := ((up_n (by decide)).trans (hid kn_107))
    have kn_109 : Hid (c_41 41 22 = n2) := (hF_43 41 22 (fun q => q.elim (fun h => absurd h.2 (ni rfl)) (fun q => q.elim (fun h => absurd h.2 (ni rfl)) (fun q => q.elim (fun h => absurd h.2 (ni rfl)) (fun q => q.elim (fun h => absurd h.2 (ni rfl)) (fun q => q.elim (fun h => absurd h.2 (ni rfl)) (fun h => absurd h.2 (ni rfl)))))))).trans ((up_n (by decide)).trans (hr_n2))
    have kn_110 : Hid (c_50 41 22 = n2) := (hF_52 41 22 (fun q => q.elim (fun h => absurd h.2 (ni rfl)) (fun q => q.elim (fun h => absurd h.2 (ni rfl)) (fun q => q.elim (fun h => absurd h.2 (ni rfl)) (fun h => absurd h.2 (ni rfl)))))).trans (hid kn_109)
    have kn_111 : Hid (c_70 41 22 = n2) := (hF_72 41 22 (fun q => q.elim (fun h => absurd h.2 (ni rfl)) (fun q => q.elim (fun h => absurd h.2 (ni rfl)) (fun q => q.elim (fun h => absurd h.2 (ni rfl)) (fun q => q.elim (fun h => absurd h.2 (ni rfl)) (fun q => q.elim (fun h => absurd h.2 (ni rfl)) (fun q => q.elim (fun h => absurd h.2 (ni rfl)) (fun q => q.elim (fun h => absurd h.2 (ni rfl)) (fun q => q.elim (fun h => absurd h (nn rfl)) (fun q => q.elim (fun h => absurd h (nn rfl)) (fun h => absurd h (nn rfl)))))))))))).trans (hid kn_110)
    have h_112 : (up c_70 41 8 (c_17 1 5)) 41 22 = n2 := ((up_n (by decide)).trans (hid kn_111))
    have kn_113 : Hid (c_41 41 23 = n3) := (hF_43 41 23 (fun q => q.elim (fun h => absurd h.2 (ni rfl)) (fun q => q.elim (fun h => absurd h.2 (ni rfl)) (fun q => q.elim (fun h => absurd h.2 (ni rfl)) (fun q => q.elim (fun h => absurd h.2 (ni rfl)) (fun q => q.elim (fun h => absurd h.2 (ni rfl)) (fun h => absurd h.2 (ni rfl)))))))).trans ((up_n (by decide)).trans (hr_n3))
    have kn_114 : Hid (c_50 41 23 = n3) := (hF_52 41 23 (fun q => q.elim (fun h => absurd h.2 (ni rfl)) (fun q => q.elim (fun h => absurd h.2 (ni rfl)) (fun q => q.elim (fun h => absurd h.2 (ni rfl)) (fun h => absurd h.2 (ni rfl)))))).trans (hid kn_113)
    have kn_115 : Hid (c_70 41 23 = n3) := (hF_72 41 23 (fun q => q.elim (fun h => absurd h.2 (ni rfl)) (fun q => q.elim (fun h => absurd h.2 (ni rfl)) (fun q => q.elim (fun h => absurd h.2 (ni rfl)) (fun q => q.elim (fun h => absurd h.2 (ni rfl)) (fun q => q.elim (fun h => absurd h.2 (ni rfl)) (fun q => q.elim (fun h => absurd h.2 (ni rfl)) (fun q => q.elim (fun h => absurd h.2 (ni rfl)) (fun q => q.elim (fun h => absurd h (nn rfl)) (fun q => q.elim (fun h => absurd h (nn rfl)) (fun h => absurd h (nn rfl)))))))))))).trans (hid kn_114)
    have h_116 : (up c_70 41 8 (c_17 1 5)) 41 23 = n3 := ((up_n (by decide)).trans (hid kn_115))
    have h_117 : (up c_70 41 8 (c_17 1 5)) 41 21 = n1 := ((up_n (by decide)).trans (hid kn_107))
    have hA_118 : Ae (3 * n1) (c_17 (P + 2)) ((up c_70 41 8 (c_17 1 5)) 48) := ae_fr hr0 (fun j => (hF_19 (P + 2) j (by omega)).trans ((up_c (np hP rfl rfl)).trans ((up_c (np hP rfl rfl)).trans ((up_c (np hP rfl rfl)).trans ((up_c (np hP rfl rfl)).trans (up_c (np hP rfl rfl))))))) (fun j => (up_c (nn rfl)).trans ((hF_72 48 j (fun q => q.elim (fun h => absurd h.1 (nn rfl)) (fun q => q.elim (fun h => absurd h.1 (nn rfl)) (fun q => q.elim (fun h => absurd h.1 (nn rfl)) (fun q => q.elim (fun h => absurd h.1 (nn rfl)) (fun q => q.elim (fun h => absurd h.1 (nn rfl)) (fun q => q.elim (fun h => absurd h.1 (nn rfl)) (fun q => q.elim (fun h => absurd h.1 (nn rfl)) (fun q => q.elim (fun h => absurd h (nn rfl)) (fun q => q.elim (fun h => absurd h (nn rfl)) (fun h => absurd h (nn rfl)))))))))))).trans ((hF_52 48 j (fun q => q.elim (fun h => absurd h.1 (nn rfl)) (fun q => q.elim (fun h => absurd h.1 (nn rfl)) (fun q => q.elim (fun h => absurd h.1 (nn rfl)) (fun h => absurd h.1 (nn rfl)))))).trans ((hF_43 48 j (fun q => q.elim (fun h => absurd h.1 (nn rfl)) (fun q => q.elim (fun h => absurd h.1 (nn rfl)) (fun q => q.elim (fun h => absurd h.1 (nn rfl)) (fun q => q.elim (fun h => absurd h.1 (nn rfl)) (fun q => q.elim (fun h => absurd h.1 (nn rfl)) (fun h => absurd h.1 (nn rfl)))))))).trans (up_c (nn rfl))))))
    have hA_119 : Ae (3 * n1) (m9 (P + 2)) ((up c_70 41 8 (c_17 1 5)) 48) := ae_l hA_118 (fun j h1 h2 => wd_av hW (ck_p2 hP) (ck_p2 hP) (by decide) (by omega) ⟨h1, by omega⟩ rfl (wide (ir_p2 hI_18 hP j) (by decide) (by decide)) (wide (ir_p2 hJ9 hP j) (by decide) (by decide)))
    have h_120 : (up c_70 41 8 (c_17 1 5)) 41 22 = n2 := ((up_n (by decide)).trans (hid kn_111))
    have hA_121 : Ae n2 (c_17 (P + 3)) ((up c_70 41 8 (c_17 1 5)) 49) := ae_fr hr1 (fun j => (hF_19 (P + 3) j (by omega)).trans ((up_c (np hP rfl rfl)).trans ((up_c (np hP rfl rfl)).trans ((up_c (np hP rfl rfl)).trans ((up_c (np hP rfl rfl)).trans (up_c (np hP rfl rfl))))))) (fun j => (up_c (nn rfl)).trans ((hF_72 49 j (fun q => q.elim (fun h => absurd h.1 (nn rfl)) (fun q => q.elim (fun h => absurd h.1 (nn rfl)) (fun q => q.elim (fun h => absurd h.1 (nn rfl)) (fun q => q.elim (fun h => absurd h.1 (nn rfl)) (fun q => q.elim (fun h => absurd h.1 (nn rfl)) (fun q => q.elim (fun h => absurd h.1 (nn rfl)) (fun q => q.elim (fun h => absurd h.1 (nn rfl)) (fun q => q.elim (fun h => absurd h (nn rfl)) (fun q => q.elim (fun h => absurd h (nn rfl)) (fun h => absurd h (nn rfl)))))))))))).trans ((hF_52 49 j (fun q => q.elim (fun h => absurd h.1 (nn rfl)) (fun q => q.elim (fun h => absurd h.1 (nn rfl)) (fun q => q.elim (fun h => absurd h.1 (nn rfl)) (fun h => absurd h.1 (nn rfl)))))).trans ((hF_43 49 j (fun q => q.elim (fun h => absurd h.1 (nn rfl)) (fun q => q.elim (fun h => absurd h.1 (nn rfl)) (fun q => q.elim (fun h => absurd h.1 (nn rfl)) (fun q => q.elim (fun h => absurd h.1 (nn rfl)) (fun q => q.elim (fun h => absurd h.1 (nn rfl)) (fun h => absurd h.1 (nn rfl)))))))).trans (up_c (nn rfl))))))
    have hA_122 : Ae n2 (m9 (P + 3)) ((up c_70 41 8 (c_17 1 5)) 49) := ae_l hA_121 (fun j h1 h2 => wd_av hW (ck_p3 hP) (ck_p3 hP) (by decide) (by omega) ⟨h1, by omega⟩ rfl (wide (ir_p3 hI_18 hP j) (by decide) (by decide)) (wide (ir_p3 hJ9 hP j) (by decide) (by decide)))
    exact K (up c_70 41 8 (c_17 1 5)) (c_17 1 4 - 10) hI_92 (fun a j hm => (up_b (Decidable.or_iff_not_imp_left.mpr (fun h1 h2 => hm (Or.inr (Or.inr (Or.inr (Or.inr (Or.inr (Or.inr (Or.inr (Or.inr (Or.inl ⟨Decidable.not_not.mp h1, h2⟩)))))))))))).trans ((hF_72 a j (fun q => q.elim (fun h => hm (Or.inr (Or.inr (Or.inr (Or.inr (Or.inl h)))))) (fun q => q.elim (fun h => hm (Or.inr (Or.inr (Or.inr (Or.inr (Or.inr (Or.inl h))))))) (fun q => q.elim (fun h => hm (Or.inr (Or.inr (Or.inr (Or.inr (Or.inr (Or.inr (Or.inl h)))))))) (fun q => q.elim (fun h => hm (Or.inr (Or.inr (Or.inr (Or.inr (Or.inr (Or.inr (Or.inr (Or.inr (Or.inr (Or.inl h))))))))))) (fun q => q.elim (fun h => hm (Or.inr (Or.inr (Or.inr (Or.inr (Or.inr (Or.inr (Or.inr (Or.inr (Or.inr (Or.inr (Or.inl h)))))))))))) (fun q => q.elim (fun h => hm (Or.inr (Or.inr (Or.inr (Or.inr (Or.inr (Or.inr (Or.inr (Or.inr (Or.inr (Or.inr (Or.inr (Or.inl h))))))))))))) (fun q => q.elim (fun h => hm (Or.inr (Or.inr (Or.inr (Or.inr (Or.inr (Or.inr (Or.inr (Or.inr (Or.inr (Or.inr (Or.inr (Or.inr (Or.inl h)))))))))))))) (fun q => q.elim (fun h => hm (Or.inr (Or.inr (Or.inr (Or.inr (Or.inr (Or.inr (Or.inr (Or.inr (Or.inr (Or.inr (Or.inr (Or.inr (Or.inr (Or.inl h))))))))))))))) (fun q => q.elim (fun h => hm (Or.inr (Or.inr (Or.inr (Or.inr (Or.inr (Or.inr (Or.inr (Or.inr (Or.inr (Or.inr (Or.inr (Or.inr (Or.inr (Or.inr (Or.inl h)))))))))))))))) (fun h => hm (Or.inr (Or.inr (Or.inr (Or.inr (Or.inr (Or.inr (Or.inr (Or.inr (Or.inr (Or.inr (Or.inr (Or.inr (Or.inr (Or.inr (Or.inr (Or.inl h))))))))))))))))))))))))))).trans ((hF_52 a j (fun q => q.elim (fun h => hm (Or.inr (Or.inr (Or.inr (Or.inr (Or.inr (Or.inr (Or.inr (Or.inr (Or.inr (Or.inl h))))))))))) (fun q => q.elim (fun h => hm (Or.inr (Or.inr (Or.inr (Or.inr (Or.inr (Or.inr (Or.inr (Or.inr (Or.inr (Or.inr (Or.inl h)))))))))))) (fun q => q.elim (fun h => hm (Or.inr (Or.inr (Or.inr (Or.inr (Or.inr (Or.inr (Or.inr (Or.inr (Or.inr (Or.inr (Or.inr (Or.inl h))))))))))))) (fun h => hm (Or.inr (Or.inr (Or.inr (Or.inr (Or.inr (Or.inr (Or.inr (Or.inr (Or.inr (Or.inr (Or.inr (Or.inr (Or.inl h)))))))))))))))))).trans ((hF_43 a j (fun q => q.elim (fun h => hm (Or.inr (Or.inr (Or.inl h)))) (fun q => q.elim (fun h => hm (Or.inr (Or.inr (Or.inr (Or.inl h))))) (fun q => q.elim (fun h => hm (Or.inr (Or.inr (Or.inr (Or.inr (Or.inl h)))))) (fun q => q.elim (fun h => hm (Or.inr (Or.inr (Or.inr (Or.inr (Or.inr (Or.inl h))))))) (fun q => q.elim (fun h => hm (Or.inr (Or.inr (Or.inr (Or.inr (Or.inr (Or.inr (Or.inr (Or.inl h))))))))) (fun h => hm (Or.inr (Or.inr (Or.inr (Or.inr (Or.inr (Or.inr (Or.inr (Or.inr (Or.inl h)))))))))))))))).trans (up_b (Decidable.or_iff_not_imp_left.mpr (fun h1 h2 => hm (Or.inl ⟨Decidable.not_not.mp h1, h2⟩)))))))) ⟨by omega, by omega⟩ (by omega) (by omega) (by omega) (by omega) (by omega) (by omega) (by omega) (by omega) (ae_le hA_119 (by omega)) (ae_le hA_122 (by omega))
  · refine v_if_ne_f (t := 11) rfl (by decide) (by omega) ?_
    refine q_iconst rfl ?_
    refine q_goto (t := 12) rfl (by decide) ?_
    refine v_zret rfl rfl (by decide) ?_
    refine bk_inl ?_
    refine v_if_eq_f (t := 81) rfl (by decide) (by decide) ?_
    refine q_aload_n rfl rfl ?_
    refine v_gr (t := P) rfl rfl rfl (by decide) rfl ?_
    refine q_astore_n rfl (by decide) ?_
    refine q_aload_n rfl rfl ?_
    refine q_aload_n rfl rfl ?_
    refine v_gr (t := Q) rfl rfl rfl (by decide) rfl ?_
    refine v_pr (P' := Q) (Q' := Q) (N' := P) (T' := P) rfl rfl rfl rfl (by decide) (Nat.lt_of_succ_le (Nat.le_of_ble_eq_true rfl)) (fun c => rfl) rfl (by decide) (fun b hb => ck_x0 hb) ?_
    refine q_aload_n rfl rfl ?_
    refine q_aload_n rfl rfl ?_
    refine v_pr (P' := Q) (Q' := P) (N' := P) (T' := P) rfl rfl rfl rfl (by decide) (Nat.lt_of_succ_le (Nat.le_of_ble_eq_true rfl)) (fun c => rfl) rfl (by decide) (fun b hb => ck_x0 hb) ?_
    refine Wp_ls [(0, .ref 0)] (lsub_cons rfl lsub_nil) ?_
    have h_123 := ir_p0_0 hI_18 hQ
    refine s_84u (P := Q) (Q := P) (iv_swap hI_18) (fun c_124 y_125 hI_126 hF_127 hy_128 h_129 h_130 => ?_)
    have h_131 := ir_3_3 hI_126
    have h_132 := ir_3_4 hI_126
    have h_133 := ir_0_11 hI_126
    intro hE_134
    have h_135 : yg = y_125 := (vi_inj ⟨by omega, by omega⟩ ⟨by omega, by omega⟩ (Option.some.inj (Sum.inl.inj (Prod.mk.inj hE_134).1))).symm
    have hW : Wd Q P Q Q c_124 = Wd P9 Q9 P9 P9 m9 := (Prod.mk.inj (Prod.mk.inj hE_134).2).1
    obtain ⟨hp9, hq9⟩ := wd_pq hW
    subst hp9
    subst hq9
    have h_136 := ir_1_5 hI_18
    have kn_137 : Hid (c_124 1 5 = c_17 1 5) := hF_127 1 5 (fun q => q.elim (fun h => absurd h (nn rfl)) (fun q => q.elim (fun h => absurd h (nn rfl)) (fun q => q.elim (fun h => absurd h.1 (nn rfl)) (fun q => q.elim (fun h => absurd h.1 (nn rfl)) (fun h => absurd h.1 (nn rfl))))))
    have h_138 := ir_1_5 hJ9
    have h_139 : m9 1 5 = c_17 1 5 := wd_fv (z := 5) 5 rfl hW rfl rfl rfl rfl (by decide) (hid kn_137) ⟨by omega, by omega⟩ ⟨by omega, by omega⟩
    have kn_140 : Hid (c_124 Q 0 = c_17 Q 0) := hF_127 Q 0 (fun q => q.elim (fun h => absurd h (np0 hQ rfl)) (fun q => q.elim (fun h => absurd h (np0 hQ rfl)) (fun q => q.elim (fun h => absurd h.1 (np0 hQ rfl)) (fun q => q.elim (fun h => absurd h.1 (np0 hQ rfl)) (fun h => absurd h.1 (np0 hQ rfl))))))
    have h_141 := ir_p0_0 hJ9 hQ
    have h_142 : m9 Q 0 = c_17 Q 0 := wd_fv (z := 0) 0 rfl hW (ck_A hQ) (ck_A hQ) rfl rfl (by omega) (hid kn_140) ⟨by omega, by omega⟩ ⟨by omega, by omega⟩
    have h_143 := ir_p0_1 hI_18 hQ
    have kn_144 : Hid (c_124 Q 1 = c_17 Q 1) := hF_127 Q 1 (fun q => q.elim (fun h => absurd h (np0 hQ rfl)) (fun q => q.elim (fun h => absurd h (np0 hQ rfl)) (fun q => q.elim (fun h => absurd h.1 (np0 hQ rfl)) (fun q => q.elim (fun h => absurd h.1 (np0 hQ rfl)) (fun h => absurd h.1 (np0 hQ rfl))))))
    have h_145 := ir_p0_1 hJ9 hQ
    have h_146 : m9 Q 1 = c_17 Q 1 := wd_fv (z := 1) 1 rfl hW (ck_A hQ) (ck_A hQ) rfl rfl (by omega) (hid kn_144) ⟨by omega, by omega⟩ ⟨by omega, by omega⟩
    have h_147 := ir_p0_2 hI_18 hQ
    have kn_148 : Hid (c_124 Q 2 = c_17 Q 2) := hF_127 Q 2 (fun q => q.elim (fun h => absurd h (np0 hQ rfl)) (fun q => q.elim (fun h => absurd h (np0 hQ rfl)) (fun q => q.elim (fun h => absurd h.1 (np0 hQ rfl)) (fun q => q.elim (fun h => absurd h.1 (np0 hQ rfl)) (fun h => absurd h.1 (np0 hQ rfl))))))
    have h_149 := ir_p0_2 hJ9 hQ
    have h_150 : m9 Q 2 = c_17 Q 2 := wd_fv (z := 2) 2 rfl hW (ck_A hQ) (ck_A hQ) rfl rfl (by omega) (hid kn_148) ⟨by omega, by omega⟩ ⟨by omega, by omega⟩
    have h_151 := ir_p0_3 hI_18 hQ
    have kn_152 : Hid (c_124 Q 3 = c_17 Q 3) := hF_127 Q 3 (fun q => q.elim (fun h => absurd h (np0 hQ rfl)) (fun q => q.elim (fun h => absurd h (np0 hQ rfl)) (fun q => q.elim (fun h => absurd h.1 (np0 hQ rfl)) (fun q => q.elim (fun h => absurd h.1 (np0 hQ rfl)) (fun h => absurd h.1 (np0 hQ rfl))))))
    have h_153 := ir_p0_3 hJ9 hQ
    have h_154 : m9 Q 3 = c_17 Q 3 := wd_fv (z := 3) 3 rfl hW (ck_A hQ) (ck_A hQ) rfl rfl (by omega) (hid kn_152) ⟨by omega, by omega⟩ ⟨by omega, by omega⟩
    refine q_aload_n rfl rfl ?_
    refine q_iconst rfl ?_
    refine v_pi (z := 0) rfl rfl rfl (by decide) rfl rfl rfl (by decide) ?_
    refine q_aload_n rfl rfl ?_
    refine q_iload_n rfl rfl ?_
    refine v_if_lt_f (t := 22) rfl (by decide) (by omega) ?_
    refine q_iload_n rfl rfl ?_
    refine q_aload_n rfl rfl ?_
    refine v_gi (z := 2) (v := t9) rfl rfl rfl (by decide) rfl rfl ((up_n (by decide)).trans (hr_t9)) ?_
    refine v_ic_gt_f (t := 22) rfl (by decide) (by omega) ?_
    refine q_iconst rfl ?_
    refine q_goto (t := 23) rfl (by decide) ?_
    refine q_iconst rfl ?_
    refine q_iconst rfl ?_
    refine v_cv rfl rfl rfl rfl (by decide) ⟨⟨rfl, rfl⟩, by decide, rfl⟩ (Nat.le_of_ble_eq_true rfl) (Nat.le_of_ble_eq_true rfl) ?_
    refine q_iload_n rfl rfl ?_
    refine v_if_ne_t (t := 26) rfl (by decide) (by decide) ?_
    refine q_aload_n rfl rfl ?_
    refine v_gi (z := 0) (v := 0) rfl rfl rfl (by decide) rfl rfl (up_e rfl) ?_
    refine v_if_ne_f (t := 37) rfl (by decide) (by decide) ?_
    refine q_iconst rfl ?_
    refine q_goto (t := 38) rfl (by decide) ?_
    refine v_zret rfl rfl (by decide) ?_
    refine bk_inl ?_
    refine v_if_ne_t (t := 33) rfl (by decide) (by decide) ?_
    refine q_aload_n rfl rfl ?_
    refine q_iload_n rfl rfl ?_
    have hI_155 := iw_41_0 (v := 0) hI ⟨by decide, by decide⟩
    refine v_cv rfl rfl rfl rfl (by decide) ⟨⟨rfl, rfl⟩, by decide, rfl⟩ (Nat.le_of_ble_eq_true rfl) (Nat.le_of_ble_eq_true rfl) (s_163 (a1 := a1) hI_155 (show 0 ≤ a1 ∧ a1 ≤ 600 from by omega) (fun c_156 hI_157 hF_158 h_159 => ?_))
    refine bk_inl ?_
    have h_160 := ir_41_2 hI_157
    have h_161 := ir_41_3 hI_157
    have h_162 := ir_41_4 hI_157
    have h_163 := ir_41_5 hI_157
    have h_164 := ir_41_7 hI_157
    refine q_aload_n rfl rfl ?_
    refine v_cv rfl rfl rfl rfl (by decide) ⟨⟨rfl, rfl⟩, by decide, rfl⟩ (Nat.le_of_ble_eq_true rfl) (Nat.le_of_ble_eq_true rfl) (s_147 hI_157 (fun c_165 hI_166 hF_167 h_168 => ?_))
    refine bk_inl ?_
    have h_169 := ir_41_16 hI_166
    have h_170 := ir_41_17 hI_166
    have h_171 := ir_41_18 hI_166
    have h_172 := ir_41_19 hI_166
    refine q_iconst rfl ?_
    refine q_istore_n rfl (by decide) ?_
    refine Wp_ls [(0, .ref 41), (1, vi a1), (2, vi 0)] (lsub_cons rfl (lsub_cons rfl (lsub_cons rfl lsub_nil))) ?_
    have kn_173 : Hid (c_165 41 3 = c_156 41 3) := hF_167 41 3 (fun q => q.elim (fun h => absurd h.2 (ni rfl)) (fun q => q.elim (fun h => absurd h.2 (ni rfl)) (fun q => q.elim (fun h => absurd h.2 (ni rfl)) (fun h => absurd h.2 (ni rfl)))))
    have h_174 : (up (up (up (up (up m 1 1 y_11) 1 2 0) 1 3 0) 1 4 0) 1 5 (-1)) 1 4 = 0 := ((up_n (by decide)).trans (up_e rfl))
    have h_175 : (up (up (up (up (up m 1 1 y_11) 1 2 0) 1 3 0) 1 4 0) 1 5 (-1)) 1 2 = 0 := ((up_n (by decide)).trans ((up_n (by decide)).trans ((up_n (by decide)).trans (up_e rfl))))
    have h_176 : (up (up (up (up (up m 1 1 y_11) 1 2 0) 1 3 0) 1 4 0) 1 5 (-1)) 1 5 = (-1) := (up_e rfl)
    have kn_177 : Hid (c_165 41 5 = c_156 41 5) := hF_167 41 5 (fun q => q.elim (fun h => absurd h.2 (ni rfl)) (fun q => q.elim (fun h => absurd h.2 (ni rfl)) (fun q => q.elim (fun h => absurd h.2 (ni rfl)) (fun h => absurd h.2 (ni rfl)))))
    have h_178 : c_165 41 5 = c_156 41 5 := (hid kn_177)
    have kn_179 : Hid (c_165 41 4 = c_156 41 4) := hF_167 41 4 (fun q => q.elim (fun h => absurd h.2 (ni rfl)) (fun q => q.elim (fun h => absurd h.2 (ni rfl)) (fun q => q.elim (fun h => absurd h.2 (ni rfl)) (fun h => absurd h.2 (ni rfl)))))
    have h_180 : c_165 41 4 = c_156 41 4 := (hid kn_179)
    have h_181 := ir_41_6 hI
    have kn_182 : Hid (c_156 41 6 = c 41 6) := (hF_158 41 6 (fun q => q.elim (fun h => absurd h.2 (ni rfl)) (fun q => q.elim (fun h => absurd h.2 (ni rfl)) (fun q => q.elim (fun h => absurd h.2 (ni rfl)) (fun q => q.elim (fun h => absurd h.2 (ni rfl)) (fun q => q.elim (fun h => absurd h.2 (ni rfl)) (fun h => absurd h.2 (ni rfl)))))))).trans (up_n (by decide))
    have kn_183 : Hid (c_165 41 6 = c 41 6) := (hF_167 41 6 (fun q => q.elim (fun h => absurd h.2 (ni rfl)) (fun q => q.elim (fun h => absurd h.2 (ni rfl)) (fun q => q.elim (fun h => absurd h.2 (ni rfl)) (fun h => absurd h.2 (ni rfl)))))).trans (hid kn_182)
    have h_184 : c_165 41 6 = c 41 6 := (hid kn_183)
    refine L_34a (m := up (up (up (up (up m 1 1 y_11) 1 2 0) 1 3 0) 1 4 0) 1 5 (-1)) (a1 := a1) (e1 := y_11) (f0 := 0) (g0 := (-1)) (z0 := c_165 41 16) (z1 := c_165 41 17) (z2 := c_165 41 18) (z3 := c_165 41 19) (F := F) (H := H) hI_166 hI_16 hI_18 hQ (show (-2147483648) ≤ a1 ∧ a1 ≤ 2147483647 from by omega) (by omega) (by omega) (by omega) (by omega) (by omega) (by omega) (((up_n (by decide)).trans ((up_n (by decide)).trans ((up_n (by decide)).trans ((up_n (by decide)).trans (up_e rfl)))))) (((show _ = c_156 41 3 from (hid kn_173)).trans (by omega))) (((up_n (by decide)).trans (up_e rfl))) ((up_e rfl)) (rfl) (rfl) (rfl) (rfl) (fun j => ((up_c (nn rfl)).trans ((up_c (nn rfl)).trans ((up_c (nn rfl)).trans ((up_c (nn rfl)).trans (up_c (nn rfl)))))).trans (hF j)) (fun j => ((hF_167 43 j (fun q => q.elim (fun h => absurd h.1 (nn rfl)) (fun q => q.elim (fun h => absurd h.1 (nn rfl)) (fun q => q.elim (fun h => absurd h.1 (nn rfl)) (fun h => absurd h.1 (nn rfl)))))).trans ((hF_158 43 j (fun q => q.elim (fun h => absurd h.1 (nn rfl)) (fun q => q.elim (fun h => absurd h.1 (nn rfl)) (fun q => q.elim (fun h => absurd h.1 (nn rfl)) (fun q => q.elim (fun h => absurd h.1 (nn rfl)) (fun q => q.elim (fun h => absurd h.1 (nn rfl)) (fun h => absurd h.1 (nn rfl)))))))).trans (up_c (nn rfl)))).trans (hH j)) hU (by unfold Rt; omega) hG_20 (fun c_185 hI_186 hF_187 hR_189 h_190 hA_191 hA_192 hA_193 => ?_)
    have h_194 := ir_41_16 hI_186
    have h_195 := ir_41_17 hI_186
    have h_196 := ir_41_18 hI_186
    have h_197 := ir_41_19 hI_186
    refine q_aload_n rfl rfl ?_
    refine q_aload_n rfl rfl ?_
    refine v_gi (z := 16) (v := c_185 41 16) rfl rfl rfl (by decide) rfl rfl rfl ?_
    refine v_cv rfl rfl rfl rfl (by decide) ⟨⟨rfl, rfl⟩, by decide, rfl⟩ (Nat.le_of_ble_eq_true rfl) (Nat.le_of_ble_eq_true rfl) ?_
    refine q_aload_n rfl rfl ?_
    refine q_aload_n rfl rfl ?_
    have h_198 := ir_41_5 hI_186
    have h_199 := ir_1_2 hI_18
    have h_200 := ir_41_4 hI_186
    have h_201 := ir_41_6 hI_186
    have h_202 := rt_ok hR_189 (by omega)
    have hro_hR_189 := rt_ok hR_189 (by omega)
    refine v_gi (z := 5) (v := (-1)) rfl rfl rfl (by decide) rfl rfl hro_hR_189.2.1 ?_
    refine v_pi (z := 8) rfl rfl rfl (by decide) rfl rfl rfl (by decide) ?_
    refine q_aload_n rfl rfl ?_
    refine v_cv rfl rfl rfl rfl (by decide) ⟨⟨rfl, rfl⟩, by decide, rfl⟩ (Nat.le_of_ble_eq_true rfl) (Nat.le_of_ble_eq_true rfl) ?_
    refine q_aload_n rfl rfl ?_
    refine v_gi (z := 5) (v := (-1)) rfl rfl rfl (by decide) rfl rfl (((up_n (by decide))).trans (hro_hR_189.2.1)) ?_
    refine q_iconst rfl ?_
    refine v_ic_ne_f (t := 12) rfl (by decide) (by decide) ?_
    refine q_iconst rfl ?_
    refine q_goto (t := 13) rfl (by decide) ?_
    refine v_zret rfl rfl (by decide) ?_
    refine bk_inl ?_
    refine v_if_eq_f (t := 19) rfl (by decide) (by decide) ?_
    refine q_iload_n rfl rfl ?_
    refine q_goto (t := 26) rfl (by decide) ?_
    refine q_iret rfl rfl ?_
    refine bk_inl ?_
    refine q_istore_n rfl (by decide) ?_
    refine q_aload_n rfl rfl ?_
    refine v_gi (z := 5) (v := (-1)) rfl rfl rfl (by decide) rfl rfl (((up_n (by decide))).trans (hro_hR_189.2.1)) ?_
    refine q_iconst rfl ?_
    refine v_ic_ne_f (t := 157) rfl (by decide) (by decide) ?_
    refine q_aload_n rfl rfl ?_
    have hI_203 := iw_41_8 (v := (-1)) hI_186 ⟨by decide, by decide⟩
    have h_204 : (up c_185 41 8 (-1)) 41 16 = c_185 41 16 := (up_n (by decide))
    have h_205 : (up c_185 41 8 (-1)) 41 17 = c_185 41 17 := (up_n (by decide))
    have h_206 : (up c_185 41 8 (-1)) 41 18 = c_185 41 18 := (up_n (by decide))
    have h_207 : (up c_185 41 8 (-1)) 41 19 = c_185 41 19 := (up_n (by decide))
    refine v_cv rfl rfl rfl rfl (by decide) ⟨⟨rfl, rfl⟩, by decide, rfl⟩ (Nat.le_of_ble_eq_true rfl) (Nat.le_of_ble_eq_true rfl) (s_149x (iv_open hI_203) (fun c_208 hI_209 hF_210 h_211 h_212 h_213 h_214 => ?_))
    refine bk_inl ?_
    have h_215 := ir_41_20 hI_209
    have h_216 := ir_41_21 hI_209
    have h_217 := ir_41_22 hI_209
    have h_218 := ir_41_23 hI_209
    have h_219 := ir_41_30 hI_209
    have h_220 := ir_41_35 hI_209
    have h_221 := ir_41_36 hI_209
    have h_222 := ir_41_47 hI_209
    have h_223 := ir_41_48 hI_209
    have h_224 := ir_41_52 hI_209
    refine q_iload_n rfl rfl ?_
    refine q_iret rfl rfl ?_
    have kn_225 : Hid (c_165 41 2 = c_156 41 2) := hF_167 41 2 (fun q => q.elim (fun h => absurd h.2 (ni rfl)) (fun q => q.elim (fun h => absurd h.2 (ni rfl)) (fun q => q.elim (fun h => absurd h.2 (ni rfl)) (fun h => absurd h.2 (ni rfl)))))
    have kn_226 : Hid (c_185 41 2 = c_156 41 2) := (hF_187 41 2 (fun q => q.elim (fun h => absurd h.2 (ni rfl)) (fun q => q.elim (fun h => absurd h.2 (ni rfl)) (fun q => q.elim (fun h => absurd h.2 (ni rfl)) (fun q => q.elim (fun h => absurd h.2 (ni rfl)) (fun q => q.elim (fun h => absurd h.2 (ni rfl)) (fun q => q.elim (fun h => absurd h.2 (ni rfl)) (fun q => q.elim (fun h => absurd h.2 (ni rfl)) (fun q => q.elim (fun h => absurd h (nn rfl)) (fun q => q.elim (fun h => absurd h (nn rfl)) (fun h => absurd h (nn rfl)))))))))))).trans (hid kn_225)
    have kn_227 : Hid (c_208 41 2 = c_156 41 2) := (hF_210 41 2 (fun q => q.elim (fun h => absurd h.2 (ni rfl)) (fun q => q.elim (fun h => absurd h.2 (ni rfl)) (fun q => q.elim (fun h => absurd h.2 (ni rfl)) (fun q => q.elim (fun h => absurd h.2 (ni rfl)) (fun q => q.elim (fun h => absurd h.2 (ni rfl)) (fun q => q.elim (fun h => absurd h.2 (ni rfl)) (fun q => q.elim (fun h => absurd h.2 (ni rfl)) (fun q => q.elim (fun h => absurd h.2 (ni rfl)) (fun q => q.elim (fun h => absurd h.2 (ni rfl)) (fun q => q.elim (fun h => absurd h.2 (ni rfl)) (fun q => q.elim (fun h => absurd h (nn rfl)) (fun q => q.elim (fun h => absurd h (nn rfl)) (fun q => q.elim (fun h => absurd h (nn rfl)) (fun q => q.elim (fun h => absurd h (nn rfl)) (fun h => absurd h (nn rfl))))))))))))))))).trans ((up_n (by decide)).trans (hid kn_226))
    have h_228 : c_208 41 2 = c_156 41 2 := (hid kn_227)
    have kn_229 : Hid (c_208 41 8 = (-1)) := (hF_210 41 8 (fun q => q.elim (fun h => absurd h.2 (ni rfl)) (fun q => q.elim (fun h => absurd h.2 (ni rfl)) (fun q => q.elim (fun h => absurd h.2 (ni rfl)) (fun q => q.elim (fun h => absurd h.2 (ni rfl)) (fun q => q.elim (fun h => absurd h.2 (ni rfl)) (fun q => q.elim (fun h => absurd h.2 (ni rfl)) (fun q => q.elim (fun h => absurd h.2 (ni rfl)) (fun q => q.elim (fun h => absurd h.2 (ni rfl)) (fun q => q.elim (fun h => absurd h.2 (ni rfl)) (fun q => q.elim (fun h => absurd h.2 (ni rfl)) (fun q => q.elim (fun h => absurd h (nn rfl)) (fun q => q.elim (fun h => absurd h (nn rfl)) (fun q => q.elim (fun h => absurd h (nn rfl)) (fun q => q.elim (fun h => absurd h (nn rfl)) (fun h => absurd h (nn rfl))))))))))))))))).trans (up_e rfl)
    have h_230 : c_208 41 8 = (-1) := (hid kn_229)
    have kn_231 : Hid (c_156 41 0 = 0) := (hF_158 41 0 (fun q => q.elim (fun h => absurd h.2 (ni rfl)) (fun q => q.elim (fun h => absurd h.2 (ni rfl)) (fun q => q.elim (fun h => absurd h.2 (ni rfl)) (fun q => q.elim (fun h => absurd h.2 (ni rfl)) (fun q => q.elim (fun h => absurd h.2 (ni rfl)) (fun h => absurd h.2 (ni rfl)))))))).trans (up_e rfl)
    have kn_232 : Hid (c_165 41 0 = 0) := (hF_167 41 0 (fun q => q.elim (fun h => absurd h.2 (ni rfl)) (fun q => q.elim (fun h => absurd h.2 (ni rfl)) (fun q => q.elim (fun h => absurd h.2 (ni rfl)) (fun h => absurd h.2 (ni rfl)))))).trans (hid kn_231)
    have kn_233 : Hid (c_185 41 0 = 0) := (hF_187 41 0 (fun q => q.elim (fun h => absurd h.2 (ni rfl)) (fun q => q.elim (fun h => absurd h.2 (ni rfl)) (fun q => q.elim (fun h => absurd h.2 (ni rfl)) (fun q => q.elim (fun h => absurd h.2 (ni rfl)) (fun q => q.elim (fun h => absurd h.2 (ni rfl)) (fun q => q.elim (fun h => absurd h.2 (ni rfl)) (fun q => q.elim (fun h => absurd h.2 (ni rfl)) (fun q => q.elim (fun h => absurd h (nn rfl)) (fun q => q.elim (fun h => absurd h (nn rfl)) (fun h => absurd h (nn rfl)))))))))))).trans (hid kn_232)
    have kn_234 : Hid (c_208 41 0 = 0) := (hF_210 41 0 (fun q => q.elim (fun h => absurd h.2 (ni rfl)) (fun q => q.elim (fun h => absurd h.2 (ni rfl)) (fun q => q.elim (fun h => absurd h.2 (ni rfl)) (fun q => q.elim (fun h => absurd h.2 (ni rfl)) (fun q => q.elim (fun h => absurd h.2 (ni rfl)) (fun q => q.elim (fun h => absurd h.2 (ni rfl)) (fun q => q.elim (fun h => absurd h.2 (ni rfl)) (fun q => q.elim (fun h => absurd h.2 (ni rfl)) (fun q => q.elim (fun h => absurd h.2 (ni rfl)) (fun q => q.elim (fun h => absurd h.2 (ni rfl)) (fun q => q.elim (fun h => absurd h (nn rfl)) (fun q => q.elim (fun h => absurd h (nn rfl)) (fun q => q.elim (fun h => absurd h (nn rfl)) (fun q => q.elim (fun h => absurd h (nn rfl)) (fun h => absurd h (nn rfl))))))))))))))))).trans ((up_n (by decide)).trans (hid kn_233))
    have h_235 : c_208 41 0 = 0 := (hid kn_234)
    have hA_236 : Ae (3 * c_185 41 17) (c_124 (Q + 2)) ((up c_185 41 8 (-1)) 45) := ae_fr (hA_192 (by omega)) (fun j => hF_127 (Q + 2) j (fun q => q.elim (fun h => absurd h (np hQ rfl rfl)) (fun q => q.elim (fun h => absurd h (np hQ rfl rfl)) (fun q => q.elim (fun h => absurd h.1 (np hQ rfl rfl)) (fun q => q.elim (fun h => absurd h.1 (np hQ rfl rfl)) (fun h => absurd h.1 (np hQ rfl rfl))))))) (fun j => up_c (nn rfl))
    have hA_237 : Ae (3 * c_208 41 21) (c_124 (Q + 2)) ((up c_185 41 8 (-1)) 45) := ae_le hA_236 (by omega)
    have hA_238 : Ae (3 * c_208 41 21) (c_124 (Q + 2)) (c_208 48) := ae_cp hA_237 (fun j h1 h2 => h_213 j (by omega) (by omega))
    have hA_239 : Ae (3 * c_208 41 21) (m9 (Q + 2)) (c_208 48) := ae_l hA_238 (fun j h1 h2 => wd_av hW (ck_p2 hQ) (ck_p2 hQ) (by decide) (by omega) ⟨h1, by omega⟩ rfl (wide (ir_p2 hI_126 hQ j) (by decide) (by decide)) (wide (ir_p2 hJ9 hQ j) (by decide) (by decide)))
    have hA_240 : Ae (c_185 41 18) (c_124 (Q + 3)) ((up c_185 41 8 (-1)) 46) := ae_fr (hA_193 (by omega)) (fun j => hF_127 (Q + 3) j (fun q => q.elim (fun h => absurd h (np hQ rfl rfl)) (fun q => q.elim (fun h => absurd h (np hQ rfl rfl)) (fun q => q.elim (fun h => absurd h.1 (np hQ rfl rfl)) (fun q => q.elim (fun h => absurd h.1 (np hQ rfl rfl)) (fun h => absurd h.1 (np hQ rfl rfl))))))) (fun j => up_c (nn rfl))
    have hA_241 : Ae (c_208 41 22) (c_124 (Q + 3)) ((up c_185 41 8 (-1)) 46) := ae_le hA_240 (by omega)
    have hA_242 : Ae (c_208 41 22) (c_124 (Q + 3)) (c_208 49) := ae_cp hA_241 (fun j h1 h2 => h_214 j (by omega) (by omega))
    have hA_243 : Ae (c_208 41 22) (m9 (Q + 3)) (c_208 49) := ae_l hA_242 (fun j h1 h2 => wd_av hW (ck_p3 hQ) (ck_p3 hQ) (by decide) (by omega) ⟨h1, by omega⟩ rfl (wide (ir_p3 hI_126 hQ j) (by decide) (by decide)) (wide (ir_p3 hJ9 hQ j) (by decide) (by decide)))
    exact K c_208 (c_185 41 16) hI_209 (fun a j hm => (hF_210 a j (fun q => q.elim (fun h => hm (Or.inr (Or.inr (Or.inr (Or.inr (Or.inr (Or.inr (Or.inr (Or.inr (Or.inr (Or.inr (Or.inr (Or.inr (Or.inr (Or.inr (Or.inr (Or.inr (Or.inl h)))))))))))))))))) (fun q => q.elim (fun h => hm (Or.inr (Or.inr (Or.inr (Or.inr (Or.inr (Or.inr (Or.inr (Or.inr (Or.inr (Or.inr (Or.inr (Or.inr (Or.inr (Or.inr (Or.inr (Or.inr (Or.inr (Or.inl h))))))))))))))))))) (fun q => q.elim (fun h => hm (Or.inr (Or.inr (Or.inr (Or.inr (Or.inr (Or.inr (Or.inr (Or.inr (Or.inr (Or.inr (Or.inr (Or.inr (Or.inr (Or.inr (Or.inr (Or.inr (Or.inr (Or.inr (Or.inl h)))))))))))))))))))) (fun q => q.elim (fun h => hm (Or.inr (Or.inr (Or.inr (Or.inr (Or.inr (Or.inr (Or.inr (Or.inr (Or.inr (Or.inr (Or.inr (Or.inr (Or.inr (Or.inr (Or.inr (Or.inr (Or.inr (Or.inr (Or.inr (Or.inl h))))))))))))))))))))) (fun q => q.elim (fun h => hm (Or.inr (Or.inr (Or.inr (Or.inr (Or.inr (Or.inr (Or.inr (Or.inr (Or.inr (Or.inr (Or.inr (Or.inr (Or.inr (Or.inr (Or.inr (Or.inr (Or.inr (Or.inr (Or.inr (Or.inr (Or.inl h)))))))))))))))))))))) (fun q => q.elim (fun h => hm (Or.inr (Or.inr (Or.inr (Or.inr (Or.inr (Or.inr (Or.inr (Or.inr (Or.inr (Or.inr (Or.inr (Or.inr (Or.inr (Or.inr (Or.inr (Or.inr (Or.inr (Or.inr (Or.inr (Or.inr (Or.inr (Or.inl h))))))))))))))))))))))) (fun q => q.elim (fun h => hm (Or.inr (Or.inr (Or.inr (Or.inr (Or.inr (Or.inr (Or.inr (Or.inr (Or.inr (Or.inr (Or.inr (Or.inr (Or.inr (Or.inr (Or.inr (Or.inr (Or.inr (Or.inr (Or.inr (Or.inr (Or.inr (Or.inr (Or.inl h)))))))))))))))))))))))) (fun q => q.elim (fun h => hm (Or.inr (Or.inr (Or.inr (Or.inr (Or.inr (Or.inr (Or.inr (Or.inr (Or.inr (Or.inr (Or.inr (Or.inr (Or.inr (Or.inr (Or.inr (Or.inr (Or.inr (Or.inr (Or.inr (Or.inr (Or.inr (Or.inr (Or.inr (Or.inl h))))))))))))))))))))))))) (fun q => q.elim (fun h => hm (Or.inr (Or.inr (Or.inr (Or.inr (Or.inr (Or.inr (Or.inr (Or.inr (Or.inr (Or.inr (Or.inr (Or.inr (Or.inr (Or.inr (Or.inr (Or.inr (Or.inr (Or.inr (Or.inr (Or.inr (Or.inr (Or.inr (Or.inr (Or.inr (Or.inl h)))))))))))))))))))))))))) (fun q => q.elim (fun h => hm (Or.inr (Or.inr (Or.inr (Or.inr (Or.inr (Or.inr (Or.inr (Or.inr (Or.inr (Or.inr (Or.inr (Or.inr (Or.inr (Or.inr (Or.inr (Or.inr (Or.inr (Or.inr (Or.inr (Or.inr (Or.inr (Or.inr (Or.inr (Or.inr (Or.inr (Or.inl h))))))))))))))))))))))))))) (fun q => q.elim (fun h => hm (Or.inr (Or.inr (Or.inr (Or.inr (Or.inr (Or.inr (Or.inr (Or.inr (Or.inr (Or.inr (Or.inr (Or.inr (Or.inr (Or.inr (Or.inr (Or.inr (Or.inr (Or.inr (Or.inr (Or.inr (Or.inr (Or.inr (Or.inr (Or.inr (Or.inr (Or.inr (Or.inl h)))))))))))))))))))))))))))) (fun q => q.elim (fun h => hm (Or.inr (Or.inr (Or.inr (Or.inr (Or.inr (Or.inr (Or.inr (Or.inr (Or.inr (Or.inr (Or.inr (Or.inr (Or.inr (Or.inr (Or.inr (Or.inr (Or.inr (Or.inr (Or.inr (Or.inr (Or.inr (Or.inr (Or.inr (Or.inr (Or.inr (Or.inr (Or.inr (Or.inl h))))))))))))))))))))))))))))) (fun q => q.elim (fun h => hm (Or.inr (Or.inr (Or.inr (Or.inr (Or.inr (Or.inr (Or.inr (Or.inr (Or.inr (Or.inr (Or.inr (Or.inr (Or.inr (Or.inr (Or.inr (Or.inr (Or.inr (Or.inr (Or.inr (Or.inr (Or.inr (Or.inr (Or.inr (Or.inr (Or.inr (Or.inr (Or.inr (Or.inr (Or.inl h)))))))))))))))))))))))))))))) (fun q => q.elim (fun h => hm (Or.inr (Or.inr (Or.inr (Or.inr (Or.inr (Or.inr (Or.inr (Or.inr (Or.inr (Or.inr (Or.inr (Or.inr (Or.inr (Or.inr (Or.inr (Or.inr (Or.inr (Or.inr (Or.inr (Or.inr (Or.inr (Or.inr (Or.inr (Or.inr (Or.inr (Or.inr (Or.inr (Or.inr (Or.inr (Or.inl h))))))))))))))))))))))))))))))) (fun h => hm (Or.inr (Or.inr (Or.inr (Or.inr (Or.inr (Or.inr (Or.inr (Or.inr (Or.inr (Or.inr (Or.inr (Or.inr (Or.inr (Or.inr (Or.inr (Or.inr (Or.inr (Or.inr (Or.inr (Or.inr (Or.inr (Or.inr (Or.inr (Or.inr (Or.inr (Or.inr (Or.inr (Or.inr (Or.inr (Or.inr h)))))))))))))))))))))))))))))))))))))))))))))).trans ((up_b (Decidable.or_iff_not_imp_left.mpr (fun h1 h2 => hm (Or.inr (Or.inr (Or.inr (Or.inr (Or.inr (Or.inr (Or.inr (Or.inr (Or.inl ⟨Decidable.not_not.mp h1, h2⟩)))))))))))).trans ((hF_187 a j (fun q => q.elim (fun h => hm (Or.inr (Or.inr (Or.inr (Or.inr (Or.inl h)))))) (fun q => q.elim (fun h => hm (Or.inr (Or.inr (Or.inr (Or.inr (Or.inr (Or.inl h))))))) (fun q => q.elim (fun h => hm (Or.inr (Or.inr (Or.inr (Or.inr (Or.inr (Or.inr (Or.inl h)))))))) (fun q => q.elim (fun h => hm (Or.inr (Or.inr (Or.inr (Or.inr (Or.inr (Or.inr (Or.inr (Or.inr (Or.inr (Or.inl h))))))))))) (fun q => q.elim (fun h => hm (Or.inr (Or.inr (Or.inr (Or.inr (Or.inr (Or.inr (Or.inr (Or.inr (Or.inr (Or.inr (Or.inl h)))))))))))) (fun q => q.elim (fun h => hm (Or.inr (Or.inr (Or.inr (Or.inr (Or.inr (Or.inr (Or.inr (Or.inr (Or.inr (Or.inr (Or.inr (Or.inl h))))))))))))) (fun q => q.elim (fun h => hm (Or.inr (Or.inr (Or.inr (Or.inr (Or.inr (Or.inr (Or.inr (Or.inr (Or.inr (Or.inr (Or.inr (Or.inr (Or.inl h)))))))))))))) (fun q => q.elim (fun h => hm (Or.inr (Or.inr (Or.inr (Or.inr (Or.inr (Or.inr (Or.inr (Or.inr (Or.inr (Or.inr (Or.inr (Or.inr (Or.inr (Or.inl h))))))))))))))) (fun q => q.elim (fun h => hm (Or.inr (Or.inr (Or.inr (Or.inr (Or.inr (Or.inr (Or.inr (Or.inr (Or.inr (Or.inr (Or.inr (Or.inr (Or.inr (Or.inr (Or.inl h)))))))))))))))) (fun h => hm (Or.inr (Or.inr (Or.inr (Or.inr (Or.inr (Or.inr (Or.inr (Or.inr (Or.inr (Or.inr (Or.inr (Or.inr (Or.inr (Or.inr (Or.inr (Or.inl h))))))))))))))))))))))))))).trans ((hF_167 a j (fun q => q.elim (fun h => hm (Or.inr (Or.inr (Or.inr (Or.inr (Or.inr (Or.inr (Or.inr (Or.inr (Or.inr (Or.inl h))))))))))) (fun q => q.elim (fun h => hm (Or.inr (Or.inr (Or.inr (Or.inr (Or.inr (Or.inr (Or.inr (Or.inr (Or.inr (Or.inr (Or.inl h)))))))))))) (fun q => q.elim (fun h => hm (Or.inr (Or.inr (Or.inr (Or.inr (Or.inr (Or.inr (Or.inr (Or.inr (Or.inr (Or.inr (Or.inr (Or.inl h))))))))))))) (fun h => hm (Or.inr (Or.inr (Or.inr (Or.inr (Or.inr (Or.inr (Or.inr (Or.inr (Or.inr (Or.inr (Or.inr (Or.inr (Or.inl h)))))))))))))))))).trans ((hF_158 a j (fun q => q.elim (fun h => hm (Or.inr (Or.inr (Or.inl h)))) (fun q => q.elim (fun h => hm (Or.inr (Or.inr (Or.inr (Or.inl h))))) (fun q => q.elim (fun h => hm (Or.inr (Or.inr (Or.inr (Or.inr (Or.inl h)))))) (fun q => q.elim (fun h => hm (Or.inr (Or.inr (Or.inr (Or.inr (Or.inr (Or.inl h))))))) (fun q => q.elim (fun h => hm (Or.inr (Or.inr (Or.inr (Or.inr (Or.inr (Or.inr (Or.inr (Or.inl h))))))))) (fun h => hm (Or.inr (Or.inr (Or.inr (Or.inr (Or.inr (Or.inr (Or.inr (Or.inr (Or.inl h)))))))))))))))).trans (up_b (Decidable.or_iff_not_imp_left.mpr (fun h1 h2 => hm (Or.inl ⟨Decidable.not_not.mp h1, h2⟩))))))))) ⟨by omega, by omega⟩ (by omega) (by omega) (by omega) (by omega) (by omega) (by omega) (by omega) (by omega) (ae_le hA_239 (by omega)) (ae_le hA_243 (by omega))
