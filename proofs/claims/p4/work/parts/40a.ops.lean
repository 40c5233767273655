/-! ===== the calls of the law 1 ===== -/
set_option maxRecDepth 100000 in
set_option maxHeartbeats 4000000 in
theorem o_1 {xs : Nat → Int32} {L i0 d nc ns P Q : Nat} {c : ME} {Z : AR → Prop} (hi : i0 + 8 ≤ L) (hL : L ≤ 100000) (hI : Iv 0 (-1) P Q c) (hR : Rq P c) (K : ∀ (P2 Q2 : Nat) (c2 : ME) (e : Nat), e ≤ 1 → Iv 0 (-1) P2 Q2 c2 → (Rq P2 c2) → Wp (a_scr L xs) (d + 90) 296 1844 [(4, vi (i0 : Int)), (3, .ref 67), (2, .ref 41), (1, .ref 0), (0, .ref a_SC)] [] (Wd P2 Q2 P2 P2 c2) (nc + e) (ns + 6 * e) Z) : Wp (a_scr L xs) (d + 90) 296 301 [(4, vi (i0 : Int)), (3, .ref 67), (2, .ref 41), (1, .ref 0), (0, .ref a_SC)] [] (Wd P Q P P c) nc ns Z := by
  obtain ⟨x1, hx1⟩ : ∃ z, (xs (i0 + 1)).toInt = z := ⟨_, rfl⟩
  have x1r := c_rng (xs (i0 + 1))
  rw [hx1] at x1r
  obtain ⟨x2, hx2⟩ : ∃ z, (xs (i0 + 2)).toInt = z := ⟨_, rfl⟩
  have x2r := c_rng (xs (i0 + 2))
  rw [hx2] at x2r
  obtain ⟨x3, hx3⟩ : ∃ z, (xs (i0 + 3)).toInt = z := ⟨_, rfl⟩
  have x3r := c_rng (xs (i0 + 3))
  rw [hx3] at x3r
  obtain ⟨x4, hx4⟩ : ∃ z, (xs (i0 + 4)).toInt = z := ⟨_, rfl⟩
  have x4r := c_rng (xs (i0 + 4))
  rw [hx4] at x4r
  obtain ⟨x5, hx5⟩ : ∃ z, (xs (i0 + 5)).toInt = z := ⟨_, rfl⟩
  have x5r := c_rng (xs (i0 + 5))
  rw [hx5] at x5r
  obtain ⟨x6, hx6⟩ : ∃ z, (xs (i0 + 6)).toInt = z := ⟨_, rfl⟩
  have x6r := c_rng (xs (i0 + 6))
  rw [hx6] at x6r
  obtain ⟨x7, hx7⟩ : ∃ z, (xs (i0 + 7)).toInt = z := ⟨_, rfl⟩
  have x7r := c_rng (xs (i0 + 7))
  rw [hx7] at x7r
  have hT := rl_t hR
  have hU := rl_u hR
  have hP := iv_P hI
  have hQ := iv_Q hI
  refine q_aload_n rfl rfl ?_
  refine q_aload_n rfl rfl ?_
  refine q_iload rfl rfl ?_
  refine q_iconst rfl ?_
  refine v_iadd (v := (i0 : Int) + 1) rfl (by omega) ?_
  refine v_scr (j := i0 + 1) rfl (by omega) (by omega) hL hx1 ?_
  refine q_aload_n rfl rfl ?_
  refine q_call rfl rfl rfl rfl ?_
  refine q_aload_n rfl rfl ?_
  refine q_iconst rfl ?_
  refine q_aload_n rfl rfl ?_
  refine q_iload_n rfl rfl ?_
  have h_1 := ir_1_3 hI
  refine v_cv rfl rfl rfl rfl (by decide) ⟨⟨rfl, rfl⟩, by decide, rfl⟩ (Nat.le_of_ble_eq_true rfl) (Nat.le_of_ble_eq_true rfl) (s_84 (a1 := x1) hI (show (-2147483648) ≤ x1 ∧ x1 ≤ 2147483647 from by omega) (fun c_2 hI_3 hF_4 h_5 h_6 => ?_) (fun P Q c_7 y_10 hI_8 hF_9 hy_10 h_11 => ?_))
  · skip
    have h_12 := ir_1_3 hI_3
    refine bk_thr (z := Int32.ofInt 1) rfl ⟨_, _, rfl⟩ rfl ?_
    refine bk_inl ?_
    refine q_istore rfl (by decide) ?_
    refine q_aload_n rfl rfl ?_
    refine q_aload_n rfl rfl ?_
    refine q_iload rfl rfl ?_
    refine q_iconst rfl ?_
    refine v_iadd (v := (i0 : Int) + 1) rfl (by omega) ?_
    refine v_scr (j := i0 + 1) rfl (by omega) (by omega) hL hx1 ?_
    have h_13 := ir_41_2 hI
    have kn_14 : Hid (c_2 41 2 = c 41 2) := hF_4 41 2 (fun h => absurd h.1 (nn rfl))
    have h_15 : c_2 41 2 = c 41 2 := (hid kn_14)
    refine v_cv rfl rfl rfl rfl (by decide) ⟨⟨rfl, rfl⟩, by decide, rfl⟩ (Nat.le_of_ble_eq_true rfl) (Nat.le_of_ble_eq_true rfl) (s_169 (a1 := x1) hI_3 (show (-2147483648) ≤ x1 ∧ x1 ≤ 2147483647 from by omega) (fun c_16 y_19 hI_17 hF_18 hy_19 h_20 => ?_))
    refine bk_inl ?_
    have h_21 := ir_41_2 hI_17
    refine q_istore rfl (by decide) ?_
    refine q_goto (t := 1844) rfl (by decide) ?_
    refine Wp_ls [(4, vi (i0 : Int)), (3, .ref 67), (2, .ref 41), (1, .ref 0), (0, .ref a_SC)] (lsub_cons rfl (lsub_cons rfl (lsub_cons rfl (lsub_cons rfl (lsub_cons rfl lsub_nil))))) ?_
    have kn_22 : Hid (c_2 1 3 = c 1 3) := hF_4 1 3 (fun h => absurd h.1 (nn rfl))
    have kn_23 : Hid (c_16 1 3 = c 1 3) := (hF_18 1 3 (fun q => q.elim (fun h => absurd h.1 (nn rfl)) (fun q => q.elim (fun h => absurd h (nn rfl)) (fun q => q.elim (fun h => absurd h.1 (nn rfl)) (fun q => q.elim (fun h => absurd h.1 (nn rfl)) (fun q => q.elim (fun h => absurd h.1 (nn rfl)) (fun q => q.elim (fun h => absurd h.1 (nn rfl)) (fun q => q.elim (fun h => absurd h.1 (nn rfl)) (fun q => q.elim (fun h => absurd h.1 (nn rfl)) (fun q => q.elim (fun h => absurd h.1 (nn rfl)) (fun q => q.elim (fun h => absurd h.1 (nn rfl)) (fun q => q.elim (fun h => absurd h.1 (nn rfl)) (fun q => q.elim (fun h => absurd h.1 (nn rfl)) (fun q => q.elim (fun h => absurd h.1 (nn rfl)) (fun q => q.elim (fun h => absurd h (nn rfl)) (fun q => q.elim (fun h => absurd h (nn rfl)) (fun q => q.elim (fun h => absurd h (nn rfl)) (fun q => q.elim (fun h => absurd h.1 (nn rfl)) (fun q => q.elim (fun h => absurd h.1 (nn rfl)) (fun q => q.elim (fun h => absurd h.1 (nn rfl)) (fun q => q.elim (fun h => absurd h.1 (nn rfl)) (fun q => q.elim (fun h => absurd h.1 (nn rfl)) (fun q => q.elim (fun h => absurd h.1 (nn rfl)) (fun q => q.elim (fun h => absurd h.1 (nn rfl)) (fun q => q.elim (fun h => absurd h.1 (nn rfl)) (fun q => q.elim (fun h => absurd h.1 (nn rfl)) (fun q => q.elim (fun h => absurd h.1 (nn rfl)) (fun q => q.elim (fun h => absurd h (nn rfl)) (fun q => q.elim (fun h => absurd h (nn rfl)) (fun q => q.elim (fun h => absurd h (nn rfl)) (fun q => q.elim (fun h => absurd h (nn rfl)) (fun h => absurd h (nn rfl))))))))))))))))))))))))))))))))).trans (hid kn_22)
    have h_24 : c_16 1 3 = c 1 3 := (hid kn_23)
    have h_25 : c_16 41 2 = c_16 41 2 := rfl
    exact K P Q c_16 1 (by decide) hI_17 ⟨by omega, ub_fr hU (fun j => (hF_18 2 j (fun q => q.elim (fun h => absurd h.1 (nn rfl)) (fun q => q.elim (fun h => absurd h (nn rfl)) (fun q => q.elim (fun h => absurd h.1 (nn rfl)) (fun q => q.elim (fun h => absurd h.1 (nn rfl)) (fun q => q.elim (fun h => absurd h.1 (nn rfl)) (fun q => q.elim (fun h => absurd h.1 (nn rfl)) (fun q => q.elim (fun h => absurd h.1 (nn rfl)) (fun q => q.elim (fun h => absurd h.1 (nn rfl)) (fun q => q.elim (fun h => absurd h.1 (nn rfl)) (fun q => q.elim (fun h => absurd h.1 (nn rfl)) (fun q => q.elim (fun h => absurd h.1 (nn rfl)) (fun q => q.elim (fun h => absurd h.1 (nn rfl)) (fun q => q.elim (fun h => absurd h.1 (nn rfl)) (fun q => q.elim (fun h => absurd h (nn rfl)) (fun q => q.elim (fun h => absurd h (nn rfl)) (fun q => q.elim (fun h => absurd h (nn rfl)) (fun q => q.elim (fun h => absurd h.1 (nn rfl)) (fun q => q.elim (fun h => absurd h.1 (nn rfl)) (fun q => q.elim (fun h => absurd h.1 (nn rfl)) (fun q => q.elim (fun h => absurd h.1 (nn rfl)) (fun q => q.elim (fun h => absurd h.1 (nn rfl)) (fun q => q.elim (fun h => absurd h.1 (nn rfl)) (fun q => q.elim (fun h => absurd h.1 (nn rfl)) (fun q => q.elim (fun h => absurd h.1 (nn rfl)) (fun q => q.elim (fun h => absurd h.1 (nn rfl)) (fun q => q.elim (fun h => absurd h.1 (nn rfl)) (fun q => q.elim (fun h => absurd h (nn rfl)) (fun q => q.elim (fun h => absurd h (nn rfl)) (fun q => q.elim (fun h => absurd h (nn rfl)) (fun q => q.elim (fun h => absurd h (nn rfl)) (fun h => absurd h (nn rfl))))))))))))))))))))))))))))))))).trans (hF_4 2 j (fun h => absurd h.1 (nn rfl)))) (fun j => (hF_18 43 j (fun q => q.elim (fun h => absurd h.1 (nn rfl)) (fun q => q.elim (fun h => absurd h (nn rfl)) (fun q => q.elim (fun h => absurd h.1 (nn rfl)) (fun q => q.elim (fun h => absurd h.1 (nn rfl)) (fun q => q.elim (fun h => absurd h.1 (nn rfl)) (fun q => q.elim (fun h => absurd h.1 (nn rfl)) (fun q => q.elim (fun h => absurd h.1 (nn rfl)) (fun q => q.elim (fun h => absurd h.1 (nn rfl)) (fun q => q.elim (fun h => absurd h.1 (nn rfl)) (fun q => q.elim (fun h => absurd h.1 (nn rfl)) (fun q => q.elim (fun h => absurd h.1 (nn rfl)) (fun q => q.elim (fun h => absurd h.1 (nn rfl)) (fun q => q.elim (fun h => absurd h.1 (nn rfl)) (fun q => q.elim (fun h => absurd h (nn rfl)) (fun q => q.elim (fun h => absurd h (nn rfl)) (fun q => q.elim (fun h => absurd h (nn rfl)) (fun q => q.elim (fun h => absurd h.1 (nn rfl)) (fun q => q.elim (fun h => absurd h.1 (nn rfl)) (fun q => q.elim (fun h => absurd h.1 (nn rfl)) (fun q => q.elim (fun h => absurd h.1 (nn rfl)) (fun q => q.elim (fun h => absurd h.1 (nn rfl)) (fun q => q.elim (fun h => absurd h.1 (nn rfl)) (fun q => q.elim (fun h => absurd h.1 (nn rfl)) (fun q => q.elim (fun h => absurd h.1 (nn rfl)) (fun q => q.elim (fun h => absurd h.1 (nn rfl)) (fun q => q.elim (fun h => absurd h.1 (nn rfl)) (fun q => q.elim (fun h => absurd h (nn rfl)) (fun q => q.elim (fun h => absurd h (nn rfl)) (fun q => q.elim (fun h => absurd h (nn rfl)) (fun q => q.elim (fun h => absurd h (nn rfl)) (fun h => absurd h (nn rfl))))))))))))))))))))))))))))))))).trans (hF_4 43 j (fun h => absurd h.1 (nn rfl))))⟩
  refine bk_inl ?_
  have hP := iv_P hI_8
  have hQ := iv_Q hI_8
  have h_26 := ir_1_3 hI_8
  refine v_i2l rfl (by omega) ?_
  refine v_ls rfl rfl (by decide) (by decide) (by decide) ?_
  refine q_goto (t := 15) rfl (by decide) ?_
  refine q_iconst rfl ?_
  refine q_iret rfl rfl ?_
  refine bk_inl ?_
  refine q_istore rfl (by decide) ?_
  refine q_aload_n rfl rfl ?_
  refine q_aload_n rfl rfl ?_
  refine q_iload rfl rfl ?_
  refine q_iconst rfl ?_
  refine v_iadd (v := (i0 : Int) + 1) rfl (by omega) ?_
  refine v_scr (j := i0 + 1) rfl (by omega) (by omega) hL hx1 ?_
  have hI_27 := iw_lx (a := 67) (j := 0) (v := y_10) hI_8 (by omega)
  have h_28 := ir_41_2 hI
  have kn_29 : Hid (c_7 41 2 = c 41 2) := hF_9 41 2 (fun q => q.elim (fun h => absurd h.1 (nn rfl)) (fun q => q.elim (fun h => absurd h.1 (nn rfl)) (fun q => q.elim (fun h => absurd h.1 (nn rfl)) (fun q => q.elim (fun h => absurd h.1 (nn rfl)) (fun q => q.elim (fun h => absurd h.1 (nn rfl)) (fun q => q.elim (fun h => absurd h.1 (nn rfl)) (fun q => q.elim (fun h => absurd h (nn rfl)) (fun q => q.elim (fun h => absurd h (nn rfl)) (fun q => q.elim (fun h => absurd h.1 (nn rfl)) (fun q => q.elim (fun h => absurd h.1 (nn rfl)) (fun q => q.elim (fun h => absurd h.1 (nn rfl)) (fun h => absurd h.2 (by decide)))))))))))))
  have h_30 : (up c_7 67 0 y_10) 41 2 = c 41 2 := ((up_c (nn rfl)).trans (hid kn_29))
  refine v_cv rfl rfl rfl rfl (by decide) ⟨⟨rfl, rfl⟩, by decide, rfl⟩ (Nat.le_of_ble_eq_true rfl) (Nat.le_of_ble_eq_true rfl) (s_169 (a1 := x1) hI_27 (show (-2147483648) ≤ x1 ∧ x1 ≤ 2147483647 from by omega) (fun c_31 y_34 hI_32 hF_33 hy_34 h_35 => ?_))
  refine bk_inl ?_
  have h_36 := ir_41_2 hI_32
  refine q_istore rfl (by decide) ?_
  refine q_goto (t := 1844) rfl (by decide) ?_
  refine Wp_ls [(4, vi (i0 : Int)), (3, .ref 67), (2, .ref 41), (1, .ref 0), (0, .ref a_SC)] (lsub_cons rfl (lsub_cons rfl (lsub_cons rfl (lsub_cons rfl (lsub_cons rfl lsub_nil))))) ?_
  have kn_37 : Hid (c_31 1 3 = c_7 1 3) := (hF_33 1 3 (fun q => q.elim (fun h => absurd h.1 (nn rfl)) (fun q => q.elim (fun h => absurd h (nn rfl)) (fun q => q.elim (fun h => absurd h.1 (nn rfl)) (fun q => q.elim (fun h => absurd h.1 (nn rfl)) (fun q => q.elim (fun h => absurd h.1 (nn rfl)) (fun q => q.elim (fun h => absurd h.1 (nn rfl)) (fun q => q.elim (fun h => absurd h.1 (nn rfl)) (fun q => q.elim (fun h => absurd h.1 (nn rfl)) (fun q => q.elim (fun h => absurd h.1 (nn rfl)) (fun q => q.elim (fun h => absurd h.1 (nn rfl)) (fun q => q.elim (fun h => absurd h.1 (nn rfl)) (fun q => q.elim (fun h => absurd h.1 (nn rfl)) (fun q => q.elim (fun h => absurd h.1 (nn rfl)) (fun q => q.elim (fun h => absurd h (nn rfl)) (fun q => q.elim (fun h => absurd h (nn rfl)) (fun q => q.elim (fun h => absurd h (nn rfl)) (fun q => q.elim (fun h => absurd h.1 (nn rfl)) (fun q => q.elim (fun h => absurd h.1 (nn rfl)) (fun q => q.elim (fun h => absurd h.1 (nn rfl)) (fun q => q.elim (fun h => absurd h.1 (nn rfl)) (fun q => q.elim (fun h => absurd h.1 (nn rfl)) (fun q => q.elim (fun h => absurd h.1 (nn rfl)) (fun q => q.elim (fun h => absurd h.1 (nn rfl)) (fun q => q.elim (fun h => absurd h.1 (nn rfl)) (fun q => q.elim (fun h => absurd h.1 (nn rfl)) (fun q => q.elim (fun h => absurd h.1 (nn rfl)) (fun q => q.elim (fun h => absurd h (nn rfl)) (fun q => q.elim (fun h => absurd h (nn rfl)) (fun q => q.elim (fun h => absurd h (nn rfl)) (fun q => q.elim (fun h => absurd h (nn rfl)) (fun h => absurd h (nn rfl))))))))))))))))))))))))))))))))).trans (up_c (nn rfl))
  have h_38 : c_31 1 3 = c_7 1 3 := (hid kn_37)
  have h_39 : c_31 41 2 = c_31 41 2 := rfl
  exact K P Q c_31 0 (by decide) hI_32 ⟨by omega, ub_fr hU (fun j => (hF_33 2 j (fun q => q.elim (fun h => absurd h.1 (nn rfl)) (fun q => q.elim (fun h => absurd h (nn rfl)) (fun q => q.elim (fun h => absurd h.1 (nn rfl)) (fun q => q.elim (fun h => absurd h.1 (nn rfl)) (fun q => q.elim (fun h => absurd h.1 (nn rfl)) (fun q => q.elim (fun h => absurd h.1 (nn rfl)) (fun q => q.elim (fun h => absurd h.1 (nn rfl)) (fun q => q.elim (fun h => absurd h.1 (nn rfl)) (fun q => q.elim (fun h => absurd h.1 (nn rfl)) (fun q => q.elim (fun h => absurd h.1 (nn rfl)) (fun q => q.elim (fun h => absurd h.1 (nn rfl)) (fun q => q.elim (fun h => absurd h.1 (nn rfl)) (fun q => q.elim (fun h => absurd h.1 (nn rfl)) (fun q => q.elim (fun h => absurd h (nn rfl)) (fun q => q.elim (fun h => absurd h (nn rfl)) (fun q => q.elim (fun h => absurd h (nn rfl)) (fun q => q.elim (fun h => absurd h.1 (nn rfl)) (fun q => q.elim (fun h => absurd h.1 (nn rfl)) (fun q => q.elim (fun h => absurd h.1 (nn rfl)) (fun q => q.elim (fun h => absurd h.1 (nn rfl)) (fun q => q.elim (fun h => absurd h.1 (nn rfl)) (fun q => q.elim (fun h => absurd h.1 (nn rfl)) (fun q => q.elim (fun h => absurd h.1 (nn rfl)) (fun q => q.elim (fun h => absurd h.1 (nn rfl)) (fun q => q.elim (fun h => absurd h.1 (nn rfl)) (fun q => q.elim (fun h => absurd h.1 (nn rfl)) (fun q => q.elim (fun h => absurd h (nn rfl)) (fun q => q.elim (fun h => absurd h (nn rfl)) (fun q => q.elim (fun h => absurd h (nn rfl)) (fun q => q.elim (fun h => absurd h (nn rfl)) (fun h => absurd h (nn rfl))))))))))))))))))))))))))))))))).trans ((up_c (nn rfl)).trans (hF_9 2 j (fun q => q.elim (fun h => absurd h.1 (nn rfl)) (fun q => q.elim (fun h => absurd h.1 (nn rfl)) (fun q => q.elim (fun h => absurd h.1 (nn rfl)) (fun q => q.elim (fun h => absurd h.1 (nn rfl)) (fun q => q.elim (fun h => absurd h.1 (nn rfl)) (fun q => q.elim (fun h => absurd h.1 (nn rfl)) (fun q => q.elim (fun h => absurd h (nn rfl)) (fun q => q.elim (fun h => absurd h (nn rfl)) (fun q => q.elim (fun h => absurd h.1 (nn rfl)) (fun q => q.elim (fun h => absurd h.1 (nn rfl)) (fun q => q.elim (fun h => absurd h.1 (nn rfl)) (fun h => absurd h.1 (by decide)))))))))))))))) (fun j => (hF_33 43 j (fun q => q.elim (fun h => absurd h.1 (nn rfl)) (fun q => q.elim (fun h => absurd h (nn rfl)) (fun q => q.elim (fun h => absurd h.1 (nn rfl)) (fun q => q.elim (fun h => absurd h.1 (nn rfl)) (fun q => q.elim (fun h => absurd h.1 (nn rfl)) (fun q => q.elim (fun h => absurd h.1 (nn rfl)) (fun q => q.elim (fun h => absurd h.1 (nn rfl)) (fun q => q.elim (fun h => absurd h.1 (nn rfl)) (fun q => q.elim (fun h => absurd h.1 (nn rfl)) (fun q => q.elim (fun h => absurd h.1 (nn rfl)) (fun q => q.elim (fun h => absurd h.1 (nn rfl)) (fun q => q.elim (fun h => absurd h.1 (nn rfl)) (fun q => q.elim (fun h => absurd h.1 (nn rfl)) (fun q => q.elim (fun h => absurd h (nn rfl)) (fun q => q.elim (fun h => absurd h (nn rfl)) (fun q => q.elim (fun h => absurd h (nn rfl)) (fun q => q.elim (fun h => absurd h.1 (nn rfl)) (fun q => q.elim (fun h => absurd h.1 (nn rfl)) (fun q => q.elim (fun h => absurd h.1 (nn rfl)) (fun q => q.elim (fun h => absurd h.1 (nn rfl)) (fun q => q.elim (fun h => absurd h.1 (nn rfl)) (fun q => q.elim (fun h => absurd h.1 (nn rfl)) (fun q => q.elim (fun h => absurd h.1 (nn rfl)) (fun q => q.elim (fun h => absurd h.1 (nn rfl)) (fun q => q.elim (fun h => absurd h.1 (nn rfl)) (fun q => q.elim (fun h => absurd h.1 (nn rfl)) (fun q => q.elim (fun h => absurd h (nn rfl)) (fun q => q.elim (fun h => absurd h (nn rfl)) (fun q => q.elim (fun h => absurd h (nn rfl)) (fun q => q.elim (fun h => absurd h (nn rfl)) (fun h => absurd h (nn rfl))))))))))))))))))))))))))))))))).trans ((up_c (nn rfl)).trans (hF_9 43 j (fun q => q.elim (fun h => absurd h.1 (nn rfl)) (fun q => q.elim (fun h => absurd h.1 (nn rfl)) (fun q => q.elim (fun h => absurd h.1 (nn rfl)) (fun q => q.elim (fun h => absurd h.1 (nn rfl)) (fun q => q.elim (fun h => absurd h.1 (nn rfl)) (fun q => q.elim (fun h => absurd h.1 (nn rfl)) (fun q => q.elim (fun h => absurd h (nn rfl)) (fun q => q.elim (fun h => absurd h (nn rfl)) (fun q => q.elim (fun h => absurd h.1 (nn rfl)) (fun q => q.elim (fun h => absurd h.1 (nn rfl)) (fun q => q.elim (fun h => absurd h.1 (nn rfl)) (fun h => absurd h.2 (by decide))))))))))))))))⟩

set_option maxRecDepth 100000 in
set_option maxHeartbeats 4000000 in
theorem o_2 {xs : Nat → Int32} {L i0 d nc ns P Q : Nat} {c : ME} {Z : AR → Prop} (hi : i0 + 8 ≤ L) (hL : L ≤ 100000) (hI : Iv 0 (-1) P Q c) (hR : Rq P c) (K : ∀ (P2 Q2 : Nat) (c2 : ME) (e : Nat), e ≤ 1 → Iv 0 (-1) P2 Q2 c2 → (Rq P2 c2) → Wp (a_scr L xs) (d + 90) 296 1844 [(4, vi (i0 : Int)), (3, .ref 67), (2, .ref 41), (1, .ref 0), (0, .ref a_SC)] [] (Wd P2 Q2 P2 P2 c2) (nc + e) (ns + 6 * e) Z) : Wp (a_scr L xs) (d + 90) 296 329 [(4, vi (i0 : Int)), (3, .ref 67), (2, .ref 41), (1, .ref 0), (0, .ref a_SC)] [] (Wd P Q P P c) nc ns Z := by
  obtain ⟨x1, hx1⟩ : ∃ z, (xs (i0 + 1)).toInt = z := ⟨_, rfl⟩
  have x1r := c_rng (xs (i0 + 1))
  rw [hx1] at x1r
  obtain ⟨x2, hx2⟩ : ∃ z, (xs (i0 + 2)).toInt = z := ⟨_, rfl⟩
  have x2r := c_rng (xs (i0 + 2))
  rw [hx2] at x2r
  obtain ⟨x3, hx3⟩ : ∃ z, (xs (i0 + 3)).toInt = z := ⟨_, rfl⟩
  have x3r := c_rng (xs (i0 + 3))
  rw [hx3] at x3r
  obtain ⟨x4, hx4⟩ : ∃ z, (xs (i0 + 4)).toInt = z := ⟨_, rfl⟩
  have x4r := c_rng (xs (i0 + 4))
  rw [hx4] at x4r
  obtain ⟨x5, hx5⟩ : ∃ z, (xs (i0 + 5)).toInt = z := ⟨_, rfl⟩
  have x5r := c_rng (xs (i0 + 5))
  rw [hx5] at x5r
  obtain ⟨x6, hx6⟩ : ∃ z, (xs (i0 + 6)).toInt = z := ⟨_, rfl⟩
  have x6r := c_rng (xs (i0 + 6))
  rw [hx6] at x6r
  obtain ⟨x7, hx7⟩ : ∃ z, (xs (i0 + 7)).toInt = z := ⟨_, rfl⟩
  have x7r := c_rng (xs (i0 + 7))
  rw [hx7] at x7r
  have hT := rl_t hR
  have hU := rl_u hR
  have hP := iv_P hI
  have hQ := iv_Q hI
  refine q_aload_n rfl rfl ?_
  refine q_aload_n rfl rfl ?_
  refine q_iload rfl rfl ?_
  refine q_iconst rfl ?_
  refine v_iadd (v := (i0 : Int) + 1) rfl (by omega) ?_
  refine v_scr (j := i0 + 1) rfl (by omega) (by omega) hL hx1 ?_
  refine q_aload_n rfl rfl ?_
  refine q_call rfl rfl rfl rfl ?_
  refine q_aload_n rfl rfl ?_
  refine q_iconst rfl ?_
  refine q_aload_n rfl rfl ?_
  refine q_iload_n rfl rfl ?_
  have h_1 := ir_1_3 hI
  refine v_cv rfl rfl rfl rfl (by decide) ⟨⟨rfl, rfl⟩, by decide, rfl⟩ (Nat.le_of_ble_eq_true rfl) (Nat.le_of_ble_eq_true rfl) (fn_of (s_85 (a1 := x1) hI (show (-2147483648) ≤ x1 ∧ x1 ≤ 2147483647 from by omega) (fun c_2 hI_3 hF_4 h_5 h_6 => ?_) (fun c_7 y_10 hI_8 hF_9 hy_10 h_11 => ?_)))
  · skip
    intro hG_47
    have h_12 := ir_1_3 hI_3
    refine bk_thr (z := Int32.ofInt 1) rfl ⟨_, _, rfl⟩ rfl ?_
    refine bk_inl ?_
    refine q_istore rfl (by decide) ?_
    refine q_aload_n rfl rfl ?_
    refine q_aload_n rfl rfl ?_
    refine q_iload rfl rfl ?_
    refine q_iconst rfl ?_
    refine v_iadd (v := (i0 : Int) + 1) rfl (by omega) ?_
    refine v_scr (j := i0 + 1) rfl (by omega) (by omega) hL hx1 ?_
    refine v_cv rfl rfl rfl rfl (by decide) ⟨⟨rfl, rfl⟩, by decide, rfl⟩ (Nat.le_of_ble_eq_true rfl) (Nat.le_of_ble_eq_true rfl) ?_
    refine q_aload_n rfl rfl ?_
    refine q_iconst rfl ?_
    refine v_pi (z := 0) rfl rfl rfl (by decide) rfl rfl rfl (by decide) ?_
    refine q_aload_n rfl rfl ?_
    refine q_iload_n rfl rfl ?_
    by_cases h_13 : x1 < 0
    · refine v_if_lt_t (t := 29) rfl (by decide) (by omega) ?_
      refine q_iconst rfl ?_
      refine q_iconst rfl ?_
      refine q_iconst rfl ?_
      refine v_cv rfl rfl rfl rfl (by decide) ⟨⟨rfl, rfl⟩, by decide, rfl⟩ (Nat.le_of_ble_eq_true rfl) (Nat.le_of_ble_eq_true rfl) ?_
      refine q_iload_n rfl rfl ?_
      refine v_if_ne_f (t := 26) rfl (by decide) (by decide) ?_
      refine q_aload_n rfl rfl ?_
      refine v_gi (z := 0) (v := 0) rfl rfl rfl (by decide) rfl rfl (up_e rfl) ?_
      refine v_if_ne_f (t := 26) rfl (by decide) (by decide) ?_
      refine q_aload_n rfl rfl ?_
      refine q_iload_n rfl rfl ?_
      refine v_pi (z := 0) rfl rfl rfl (by decide) rfl rfl rfl (by decide) ?_
      refine q_aload_n rfl rfl ?_
      refine v_gr (t := 42) rfl rfl rfl (by decide) rfl ?_
      refine q_iload_n rfl rfl ?_
      refine q_dup2 rfl ⟨rfl, rfl⟩ ?_
      have h_14 := ir_42 hI 1
      have kn_15 : Hid (c_2 42 1 = c 42 1) := hF_4 42 1 (fun h => absurd h.1 (nn rfl))
      refine v_ia (v := c 42 1) rfl rfl (by decide) (by decide) (by decide) ((up_c (nn rfl)).trans ((up_c (nn rfl)).trans (hid kn_15))) ?_
      refine q_iconst rfl ?_
      refine v_iadd (v := c 42 1 + 1) rfl (by omega) ?_
      refine v_nrm (fun y_16 hy_16 => ?_)
      refine v_is rfl rfl (by decide) (by decide) (by decide) ?_
      refine q_aload_n rfl rfl ?_
      refine v_gi (z := 0) (v := 1) rfl rfl rfl (by decide) rfl rfl ((up_c (nn rfl)).trans (up_e rfl)) ?_
      refine v_if_ne_t (t := 37) rfl (by decide) (by decide) ?_
      refine q_iconst rfl ?_
      refine v_zret rfl rfl (by decide) ?_
      refine bk_inl ?_
      refine v_if_ne_f (t := 40) rfl (by decide) (by decide) ?_
      refine q_iconst rfl ?_
      refine q_iret rfl rfl ?_
      refine bk_inl ?_
      refine q_istore rfl (by decide) ?_
      refine q_aload_n rfl rfl ?_
      refine v_cv rfl rfl rfl rfl (by decide) ⟨⟨rfl, rfl⟩, by decide, rfl⟩ (Nat.le_of_ble_eq_true rfl) (Nat.le_of_ble_eq_true rfl) ?_
      refine q_aload_n rfl rfl ?_
      refine v_gi (z := 0) (v := 1) rfl rfl rfl (by decide) rfl rfl ((up_c (nn rfl)).trans (up_e rfl)) ?_
      refine q_iret rfl rfl ?_
      refine bk_inl ?_
      refine q_iload rfl rfl ?_
      refine v_ic_eq_t (t := 365) rfl (by decide) (by decide) ?_
      refine q_iload rfl rfl ?_
      refine v_if_ne_t (t := 382) rfl (by decide) (by decide) ?_
      refine q_goto (t := 1844) rfl (by decide) ?_
      have hI_17 := iw_41_0 (v := 0) hI_3 ⟨by decide, by decide⟩
      have hI_18 := iw_41_0 (v := 1) hI_17 ⟨by decide, by decide⟩
      have hI_19 := iw_42 (j := 1) (v := y_16) hI_18 ⟨by omega, by omega⟩
      refine Wp_ls [(4, vi (i0 : Int)), (3, .ref 67), (2, .ref 41), (1, .ref 0), (0, .ref a_SC)] (lsub_cons rfl (lsub_cons rfl (lsub_cons rfl (lsub_cons rfl (lsub_cons rfl lsub_nil))))) ?_
      have kn_20 : Hid (c_2 1 3 = c 1 3) := hF_4 1 3 (fun h => absurd h.1 (nn rfl))
      have h_21 : (up (up (up c_2 41 0 0) 41 0 1) 42 1 y_16) 1 3 = c 1 3 := ((up_c (nn rfl)).trans ((up_c (nn rfl)).trans ((up_c (nn rfl)).trans (hid kn_20))))
      have h_22 := ir_41_2 hI
      have kn_23 : Hid (c_2 41 2 = c 41 2) := hF_4 41 2 (fun h => absurd h.1 (nn rfl))
      have h_24 : (up (up (up c_2 41 0 0) 41 0 1) 42 1 y_16) 41 2 = c 41 2 := ((up_c (nn rfl)).trans ((up_n (by decide)).trans ((up_n (by decide)).trans (hid kn_23))))
      exact K P Q (up (up (up c_2 41 0 0) 41 0 1) 42 1 y_16) 1 (by decide) hI_19 ⟨by omega, ub_fr hU (fun j => (up_c (nn rfl)).trans ((up_c (nn rfl)).trans ((up_c (nn rfl)).trans (hF_4 2 j (fun h => absurd h.1 (nn rfl)))))) (fun j => (up_c (nn rfl)).trans ((up_c (nn rfl)).trans ((up_c (nn rfl)).trans (hF_4 43 j (fun h => absurd h.1 (nn rfl))))))⟩
    · refine v_if_lt_f (t := 29) rfl (by decide) (by omega) ?_
      refine q_iload_n rfl rfl ?_
      refine q_aload_n rfl rfl ?_
      have h_25 := ir_41_2 hI
      have kn_26 : Hid (c_2 41 2 = c 41 2) := hF_4 41 2 (fun h => absurd h.1 (nn rfl))
      refine v_gi (z := 2) (v := c 41 2) rfl rfl rfl (by decide) rfl rfl ((up_n (by decide)).trans (hid kn_26)) ?_
      by_cases h_27 : x1 > c 41 2
      · refine v_ic_gt_t (t := 29) rfl (by decide) (by omega) ?_
        refine q_iconst rfl ?_
        refine q_iconst rfl ?_
        refine q_iconst rfl ?_
        refine v_cv rfl rfl rfl rfl (by decide) ⟨⟨rfl, rfl⟩, by decide, rfl⟩ (Nat.le_of_ble_eq_true rfl) (Nat.le_of_ble_eq_true rfl) ?_
        refine q_iload_n rfl rfl ?_
        refine v_if_ne_f (t := 26) rfl (by decide) (by decide) ?_
        refine q_aload_n rfl rfl ?_
        refine v_gi (z := 0) (v := 0) rfl rfl rfl (by decide) rfl rfl (up_e rfl) ?_
        refine v_if_ne_f (t := 26) rfl (by decide) (by decide) ?_
        refine q_aload_n rfl rfl ?_
        refine q_iload_n rfl rfl ?_
        refine v_pi (z := 0) rfl rfl rfl (by decide) rfl rfl rfl (by decide) ?_
        refine q_aload_n rfl rfl ?_
        refine v_gr (t := 42) rfl rfl rfl (by decide) rfl ?_
        refine q_iload_n rfl rfl ?_
        refine q_dup2 rfl ⟨rfl, rfl⟩ ?_
        have h_28 := ir_42 hI 1
        have kn_29 : Hid (c_2 42 1 = c 42 1) := hF_4 42 1 (fun h => absurd h.1 (nn rfl))
        refine v_ia (v := c 42 1) rfl rfl (by decide) (by decide) (by decide) ((up_c (nn rfl)).trans ((up_c (nn rfl)).trans (hid kn_29))) ?_
        refine q_iconst rfl ?_
        refine v_iadd (v := c 42 1 + 1) rfl (by omega) ?_
        refine v_nrm (fun y_30 hy_30 => ?_)
        refine v_is rfl rfl (by decide) (by decide) (by decide) ?_
        refine q_aload_n rfl rfl ?_
        refine v_gi (z := 0) (v := 1) rfl rfl rfl (by decide) rfl rfl ((up_c (nn rfl)).trans (up_e rfl)) ?_
        refine v_if_ne_t (t := 37) rfl (by decide) (by decide) ?_
        refine q_iconst rfl ?_
        refine v_zret rfl rfl (by decide) ?_
        refine bk_inl ?_
        refine v_if_ne_f (t := 40) rfl (by decide) (by decide) ?_
        refine q_iconst rfl ?_
        refine q_iret rfl rfl ?_
        refine bk_inl ?_
        refine q_istore rfl (by decide) ?_
        refine q_aload_n rfl rfl ?_
        refine v_cv rfl rfl rfl rfl (by decide) ⟨⟨rfl, rfl⟩, by decide, rfl⟩ (Nat.le_of_ble_eq_true rfl) (Nat.le_of_ble_eq_true rfl) ?_
        refine q_aload_n rfl rfl ?_
        refine v_gi (z := 0) (v := 1) rfl rfl rfl (by decide) rfl rfl ((up_c (nn rfl)).trans (up_e rfl)) ?_
        refine q_iret rfl rfl ?_
        refine bk_inl ?_
        refine q_iload rfl rfl ?_
        refine v_ic_eq_t (t := 365) rfl (by decide) (by decide) ?_
        refine q_iload rfl rfl ?_
        refine v_if_ne_t (t := 382) rfl (by decide) (by decide) ?_
        refine q_goto (t := 1844) rfl (by decide) ?_
        have hI_31 := iw_41_0 (v := 0) hI_3 ⟨by decide, by decide⟩
        have hI_32 := iw_41_0 (v := 1) hI_31 ⟨by decide, by decide⟩
        have hI_33 := iw_42 (j := 1) (v := y_30) hI_32 ⟨by omega, by omega⟩
        refine Wp_ls [(4, vi (i0 : Int)), (3, .ref 67), (2, .ref 41), (1, .ref 0), (0, .ref a_SC)] (lsub_cons rfl (lsub_cons rfl (lsub_cons rfl (lsub_cons rfl (lsub_cons rfl lsub_nil))))) ?_
        have kn_34 : Hid (c_2 1 3 = c 1 3) := hF_4 1 3 (fun h => absurd h.1 (nn rfl))
        have h_35 : (up (up (up c_2 41 0 0) 41 0 1) 42 1 y_30) 1 3 = c 1 3 := ((up_c (nn rfl)).trans ((up_c (nn rfl)).trans ((up_c (nn rfl)).trans (hid kn_34))))
        have h_36 : (up (up (up c_2 41 0 0) 41 0 1) 42 1 y_30) 41 2 = c 41 2 := ((up_c (nn rfl)).trans ((up_n (by decide)).trans ((up_n (by decide)).trans (hid kn_26))))
        exact K P Q (up (up (up c_2 41 0 0) 41 0 1) 42 1 y_30) 1 (by decide) hI_33 ⟨by omega, ub_fr hU (fun j => (up_c (nn rfl)).trans ((up_c (nn rfl)).trans ((up_c (nn rfl)).trans (hF_4 2 j (fun h => absurd h.1 (nn rfl)))))) (fun j => (up_c (nn rfl)).trans ((up_c (nn rfl)).trans ((up_c (nn rfl)).trans (hF_4 43 j (fun h => absurd h.1 (nn rfl))))))⟩
      · refine v_ic_gt_f (t := 29) rfl (by decide) (by omega) ?_
        refine q_iload_n rfl rfl ?_
        refine v_sip rfl (by decide) ?_
        refine v_ic_gt_t (t := 29) rfl (by decide) (by omega) ?_
        refine q_iconst rfl ?_
        refine q_iconst rfl ?_
        refine q_iconst rfl ?_
        refine v_cv rfl rfl rfl rfl (by decide) ⟨⟨rfl, rfl⟩, by decide, rfl⟩ (Nat.le_of_ble_eq_true rfl) (Nat.le_of_ble_eq_true rfl) ?_
        refine q_iload_n rfl rfl ?_
        refine v_if_ne_f (t := 26) rfl (by decide) (by decide) ?_
        refine q_aload_n rfl rfl ?_
        refine v_gi (z := 0) (v := 0) rfl rfl rfl (by decide) rfl rfl (up_e rfl) ?_
        refine v_if_ne_f (t := 26) rfl (by decide) (by decide) ?_
        refine q_aload_n rfl rfl ?_
        refine q_iload_n rfl rfl ?_
        refine v_pi (z := 0) rfl rfl rfl (by decide) rfl rfl rfl (by decide) ?_
        refine q_aload_n rfl rfl ?_
        refine v_gr (t := 42) rfl rfl rfl (by decide) rfl ?_
        refine q_iload_n rfl rfl ?_
        refine q_dup2 rfl ⟨rfl, rfl⟩ ?_
        have h_37 := ir_42 hI 1
        have kn_38 : Hid (c_2 42 1 = c 42 1) := hF_4 42 1 (fun h => absurd h.1 (nn rfl))
        refine v_ia (v := c 42 1) rfl rfl (by decide) (by decide) (by decide) ((up_c (nn rfl)).trans ((up_c (nn rfl)).trans (hid kn_38))) ?_
        refine q_iconst rfl ?_
        refine v_iadd (v := c 42 1 + 1) rfl (by omega) ?_
        refine v_nrm (fun y_39 hy_39 => ?_)
        refine v_is rfl rfl (by decide) (by decide) (by decide) ?_
        refine q_aload_n rfl rfl ?_
        refine v_gi (z := 0) (v := 1) rfl rfl rfl (by decide) rfl rfl ((up_c (nn rfl)).trans (up_e rfl)) ?_
        refine v_if_ne_t (t := 37) rfl (by decide) (by decide) ?_
        refine q_iconst rfl ?_
        refine v_zret rfl rfl (by decide) ?_
        refine bk_inl ?_
        refine v_if_ne_f (t := 40) rfl (by decide) (by decide) ?_
        refine q_iconst rfl ?_
        refine q_iret rfl rfl ?_
        refine bk_inl ?_
        refine q_istore rfl (by decide) ?_
        refine q_aload_n rfl rfl ?_
        refine v_cv rfl rfl rfl rfl (by decide) ⟨⟨rfl, rfl⟩, by decide, rfl⟩ (Nat.le_of_ble_eq_true rfl) (Nat.le_of_ble_eq_true rfl) ?_
        refine q_aload_n rfl rfl ?_
        refine v_gi (z := 0) (v := 1) rfl rfl rfl (by decide) rfl rfl ((up_c (nn rfl)).trans (up_e rfl)) ?_
        refine q_iret rfl rfl ?_
        refine bk_inl ?_
        refine q_iload rfl rfl ?_
        refine v_ic_eq_t (t := 365) rfl (by decide) (by decide) ?_
        refine q_iload rfl rfl ?_
        refine v_if_ne_t (t := 382) rfl (by decide) (by decide) ?_
        refine q_goto (t := 1844) rfl (by decide) ?_
        have hI_40 := iw_41_0 (v := 0) hI_3 ⟨by decide, by decide⟩
        have hI_41 := iw_41_0 (v := 1) hI_40 ⟨by decide, by decide⟩
        have hI_42 := iw_42 (j := 1) (v := y_39) hI_41 ⟨by omega, by omega⟩
        refine Wp_ls [(4, vi (i0 : Int)), (3, .ref 67), (2, .ref 41), (1, .ref 0), (0, .ref a_SC)] (lsub_cons rfl (lsub_cons rfl (lsub_cons rfl (lsub_cons rfl (lsub_cons rfl lsub_nil))))) ?_
        have kn_43 : Hid (c_2 1 3 = c 1 3) := hF_4 1 3 (fun h => absurd h.1 (nn rfl))
        have h_44 : (up (up (up c_2 41 0 0) 41 0 1) 42 1 y_39) 1 3 = c 1 3 := ((up_c (nn rfl)).trans ((up_c (nn rfl)).trans ((up_c (nn rfl)).trans (hid kn_43))))
        have h_45 : (up (up (up c_2 41 0 0) 41 0 1) 42 1 y_39) 41 2 = c 41 2 := ((up_c (nn rfl)).trans ((up_n (by decide)).trans ((up_n (by decide)).trans (hid kn_26))))
        exact K P Q (up (up (up c_2 41 0 0) 41 0 1) 42 1 y_39) 1 (by decide) hI_42 ⟨by omega, ub_fr hU (fun j => (up_c (nn rfl)).trans ((up_c (nn rfl)).trans ((up_c (nn rfl)).trans (hF_4 2 j (fun h => absurd h.1 (nn rfl)))))) (fun j => (up_c (nn rfl)).trans ((up_c (nn rfl)).trans ((up_c (nn rfl)).trans (hF_4 43 j (fun h => absurd h.1 (nn rfl))))))⟩
  intro hG_47
  refine bk_inl ?_
  have h_46 := ir_1_3 hI_8
  refine v_i2l rfl (by omega) ?_
  refine v_ls rfl rfl (by decide) (by decide) (by decide) ?_
  refine q_goto (t := 15) rfl (by decide) ?_
  refine q_iconst rfl ?_
  refine q_iret rfl rfl ?_
  refine bk_inl ?_
  refine q_istore rfl (by decide) ?_
  refine q_aload_n rfl rfl ?_
  refine q_aload_n rfl rfl ?_
  refine q_iload rfl rfl ?_
  refine q_iconst rfl ?_
  refine v_iadd (v := (i0 : Int) + 1) rfl (by omega) ?_
  refine v_scr (j := i0 + 1) rfl (by omega) (by omega) hL hx1 ?_
  have hI_48 := iw_lx (a := 67) (j := 0) (v := y_10) hI_8 (by omega)
  have h_49 := ir_41_2 hI
  have kn_50 : Hid (c_7 41 2 = c 41 2) := hF_9 41 2 (fun q => q.elim (fun h => absurd h.1 (nn rfl)) (fun q => q.elim (fun h => absurd h.1 (nn rfl)) (fun q => q.elim (fun h => absurd h.1 (nn rfl)) (fun q => q.elim (fun h => absurd h.1 (nn rfl)) (fun q => q.elim (fun h => absurd h.1 (nn rfl)) (fun q => q.elim (fun h => absurd h.1 (nn rfl)) (fun q => q.elim (fun h => absurd h.1 (pn hP rfl rfl)) (fun q => q.elim (fun h => absurd h (pn hP rfl rfl)) (fun q => q.elim (fun h => absurd h.1 (pn hP rfl rfl)) (fun h => absurd h (pn hP rfl rfl)))))))))))
  refine v_cv rfl rfl rfl rfl (by decide) ⟨⟨rfl, rfl⟩, by decide, rfl⟩ (Nat.le_of_ble_eq_true rfl) (Nat.le_of_ble_eq_true rfl) (L_85 (m := c) (a1 := x1) (yg := y_10) (t9 := c 1 3) (F := c 2) (H := c 43) hI_48 hI hI_8 (show (-2147483648) ≤ x1 ∧ x1 ≤ 2147483647 from by omega) ⟨by omega, by omega⟩ (by omega) (rfl) (((show _ = c 41 2 from ((up_c (nn rfl)).trans (hid kn_50))).trans (by omega))) (fun j => rfl) (fun j => (up_c (nn rfl)).trans (hF_9 43 j (fun q => q.elim (fun h => absurd h.1 (nn rfl)) (fun q => q.elim (fun h => absurd h.1 (nn rfl)) (fun q => q.elim (fun h => absurd h.1 (nn rfl)) (fun q => q.elim (fun h => absurd h.1 (nn rfl)) (fun q => q.elim (fun h => absurd h.1 (nn rfl)) (fun q => q.elim (fun h => absurd h.1 (nn rfl)) (fun q => q.elim (fun h => absurd h.1 (pn hP rfl rfl)) (fun q => q.elim (fun h => absurd h (pn hP rfl rfl)) (fun q => q.elim (fun h => absurd h.1 (pn hP rfl rfl)) (fun h => absurd h (pn hP rfl rfl))))))))))))) hU hG_47 (fun c_51 y_54 hI_52 hF_53 hy_54 h_55 h_56 h_57 h_58 => ?_))
  refine bk_inl ?_
  have hs_59 := h_55.symm
  subst hs_59
  have h_60 := ir_41_2 hI_52
  have h_61 := ir_41_8 hI_52
  have h_62 := ir_1_5 hI_8
  have h_63 := ir_41_0 hI_52
  refine q_istore rfl (by decide) ?_
  refine q_aload_n rfl rfl ?_
  refine v_cv rfl rfl rfl rfl (by decide) ⟨⟨rfl, rfl⟩, by decide, rfl⟩ (Nat.le_of_ble_eq_true rfl) (Nat.le_of_ble_eq_true rfl) ?_
  refine q_aload_n rfl rfl ?_
  refine v_gi (z := 0) (v := c_51 41 0) rfl rfl rfl (by decide) rfl rfl rfl ?_
  refine q_iret rfl rfl ?_
  refine bk_inl ?_
  refine q_iload rfl rfl ?_
  refine v_ic_eq_t (t := 365) rfl (by decide) (by omega) ?_
  refine q_iload rfl rfl ?_
  refine v_if_ne_f (t := 382) rfl (by decide) (by decide) ?_
  refine q_aload_n rfl rfl ?_
  refine q_iconst rfl ?_
  have kn_64 : Hid (c_51 67 0 = y_10) := (hF_53 67 0 (fun q => q.elim (fun h => absurd h.1 (nn rfl)) (fun q => q.elim (fun h => absurd h (nn rfl)) (fun q => q.elim (fun h => absurd h.1 (nn rfl)) (fun q => q.elim (fun h => absurd h.1 (nn rfl)) (fun q => q.elim (fun h => absurd h.1 (nn rfl)) (fun q => q.elim (fun h => absurd h.1 (nn rfl)) (fun q => q.elim (fun h => absurd h.1 (nn rfl)) (fun q => q.elim (fun h => absurd h.1 (nn rfl)) (fun q => q.elim (fun h => absurd h.1 (nn rfl)) (fun q => q.elim (fun h => absurd h.1 (nn rfl)) (fun q => q.elim (fun h => absurd h.1 (nn rfl)) (fun q => q.elim (fun h => absurd h (nn rfl)) (fun q => q.elim (fun h => absurd h (nn rfl)) (fun q => q.elim (fun h => absurd h (nn rfl)) (fun h => absurd h (nn rfl))))))))))))))))).trans (up_e rfl)
  refine v_la (v := y_10) rfl rfl (by decide) (by decide) (by decide) (hid kn_64) ?_
  refine q_iload rfl rfl ?_
  refine v_i2l rfl (by omega) ?_
  refine v_lcmp0 rfl (by omega) ?_
  refine v_if_eq_t (t := 382) rfl (by decide) (by decide) ?_
  refine q_goto (t := 1844) rfl (by decide) ?_
  refine Wp_ls [(4, vi (i0 : Int)), (3, .ref 67), (2, .ref 41), (1, .ref 0), (0, .ref a_SC)] (lsub_cons rfl (lsub_cons rfl (lsub_cons rfl (lsub_cons rfl (lsub_cons rfl lsub_nil))))) ?_
  have kn_65 : Hid (c_51 1 3 = c_7 1 3) := (hF_53 1 3 (fun q => q.elim (fun h => absurd h.1 (nn rfl)) (fun q => q.elim (fun h => absurd h (nn rfl)) (fun q => q.elim (fun h => absurd h.1 (nn rfl)) (fun q => q.elim (fun h => absurd h.1 (nn rfl)) (fun q => q.elim (fun h => absurd h.1 (nn rfl)) (fun q => q.elim (fun h => absurd h.1 (nn rfl)) (fun q => q.elim (fun h => absurd h.1 (nn rfl)) (fun q => q.elim (fun h => absurd h.1 (nn rfl)) (fun q => q.elim (fun h => absurd h.1 (nn rfl)) (fun q => q.elim (fun h => absurd h.1 (nn rfl)) (fun q => q.elim (fun h => absurd h.1 (nn rfl)) (fun q => q.elim (fun h => absurd h (nn rfl)) (fun q => q.elim (fun h => absurd h (nn rfl)) (fun q => q.elim (fun h => absurd h (nn rfl)) (fun h => absurd h (nn rfl))))))))))))))))).trans (up_c (nn rfl))
  have h_66 : c_51 1 3 = c_7 1 3 := (hid kn_65)
  have h_67 : c_51 41 2 = c_51 41 2 := rfl
  exact K P Q c_51 0 (by decide) hI_52 ⟨by omega, ub_fr hU (fun j => (hF_53 2 j (fun q => q.elim (fun h => absurd h.1 (nn rfl)) (fun q => q.elim (fun h => absurd h (nn rfl)) (fun q => q.elim (fun h => absurd h.1 (nn rfl)) (fun q => q.elim (fun h => absurd h.1 (nn rfl)) (fun q => q.elim (fun h => absurd h.1 (nn rfl)) (fun q => q.elim (fun h => absurd h.1 (nn rfl)) (fun q => q.elim (fun h => absurd h.1 (nn rfl)) (fun q => q.elim (fun h => absurd h.1 (nn rfl)) (fun q => q.elim (fun h => absurd h.1 (nn rfl)) (fun q => q.elim (fun h => absurd h.1 (nn rfl)) (fun q => q.elim (fun h => absurd h.1 (nn rfl)) (fun q => q.elim (fun h => absurd h (nn rfl)) (fun q => q.elim (fun h => absurd h (nn rfl)) (fun q => q.elim (fun h => absurd h (nn rfl)) (fun h => absurd h (nn rfl))))))))))))))))).trans ((up_c (nn rfl)).trans (hF_9 2 j (fun q => q.elim (fun h => absurd h.1 (nn rfl)) (fun q => q.elim (fun h => absurd h.1 (nn rfl)) (fun q => q.elim (fun h => absurd h.1 (nn rfl)) (fun q => q.elim (fun h => absurd h.1 (nn rfl)) (fun q => q.elim (fun h => absurd h.1 (nn rfl)) (fun q => q.elim (fun h => absurd h.1 (nn rfl)) (fun q => q.elim (fun h => absurd h.1 (pn hP rfl rfl)) (fun q => q.elim (fun h => absurd h (pn hP rfl rfl)) (fun q => q.elim (fun h => absurd h.1 (pn hP rfl rfl)) (fun h => absurd h (pn hP rfl rfl)))))))))))))) (fun j => (hF_53 43 j (fun q => q.elim (fun h => absurd h.1 (nn rfl)) (fun q => q.elim (fun h => absurd h (nn rfl)) (fun q => q.elim (fun h => absurd h.1 (nn rfl)) (fun q => q.elim (fun h => absurd h.1 (nn rfl)) (fun q => q.elim (fun h => absurd h.1 (nn rfl)) (fun q => q.elim (fun h => absurd h.1 (nn rfl)) (fun q => q.elim (fun h => absurd h.1 (nn rfl)) (fun q => q.elim (fun h => absurd h.1 (nn rfl)) (fun q => q.elim (fun h => absurd h.1 (nn rfl)) (fun q => q.elim (fun h => absurd h.1 (nn rfl)) (fun q => q.elim (fun h => absurd h.1 (nn rfl)) (fun q => q.elim (fun h => absurd h (nn rfl)) (fun q => q.elim (fun h => absurd h (nn rfl)) (fun q => q.elim (fun h => absurd h (nn rfl)) (fun h => absurd h (nn rfl))))))))))))))))).trans ((up_c (nn rfl)).trans (hF_9 43 j (fun q => q.elim (fun h => absurd h.1 (nn rfl)) (fun q => q.elim (fun h => absurd h.1 (nn rfl)) (fun q => q.elim (fun h => absurd h.1 (nn rfl)) (fun q => q.elim (fun h => absurd h.1 (nn rfl)) (fun q => q.elim (fun h => absurd h.1 (nn rfl)) (fun q => q.elim (fun h => absurd h.1 (nn rfl)) (fun q => q.elim (fun h => absurd h.1 (pn hP rfl rfl)) (fun q => q.elim (fun h => absurd h (pn hP rfl rfl)) (fun q => q.elim (fun h => absurd h.1 (pn hP rfl rfl)) (fun h => absurd h (pn hP rfl rfl))))))))))))))⟩

set_option maxRecDepth 100000 in
set_option maxHeartbeats 4000000 in
theorem o_3 {xs : Nat → Int32} {L i0 d nc ns P Q : Nat} {c : ME} {Z : AR → Prop} (hi : i0 + 8 ≤ L) (hL : L ≤ 100000) (hI : Iv 0 (-1) P Q c) (hR : Rq P c) (K : ∀ (P2 Q2 : Nat) (c2 : ME) (e : Nat), e ≤ 1 → Iv 0 (-1) P2 Q2 c2 → (Rq P2 c2) → Wp (a_scr L xs) (d + 90) 296 1844 [(4, vi (i0 : Int)), (3, .ref 67), (2, .ref 41), (1, .ref 0), (0, .ref a_SC)] [] (Wd P2 Q2 P2 P2 c2) (nc + e) (ns + 6 * e) Z) : Wp (a_scr L xs) (d + 90) 296 385 [(4, vi (i0 : Int)), (3, .ref 67), (2, .ref 41), (1, .ref 0), (0, .ref a_SC)] [] (Wd P Q P P c) nc ns Z := by
  obtain ⟨x1, hx1⟩ : ∃ z, (xs (i0 + 1)).toInt = z := ⟨_, rfl⟩
  have x1r := c_rng (xs (i0 + 1))
  rw [hx1] at x1r
  obtain ⟨x2, hx2⟩ : ∃ z, (xs (i0 + 2)).toInt = z := ⟨_, rfl⟩
  have x2r := c_rng (xs (i0 + 2))
  rw [hx2] at x2r
  obtain ⟨x3, hx3⟩ : ∃ z, (xs (i0 + 3)).toInt = z := ⟨_, rfl⟩
  have x3r := c_rng (xs (i0 + 3))
  rw [hx3] at x3r
  obtain ⟨x4, hx4⟩ : ∃ z, (xs (i0 + 4)).toInt = z := ⟨_, rfl⟩
  have x4r := c_rng (xs (i0 + 4))
  rw [hx4] at x4r
  obtain ⟨x5, hx5⟩ : ∃ z, (xs (i0 + 5)).toInt = z := ⟨_, rfl⟩
  have x5r := c_rng (xs (i0 + 5))
  rw [hx5] at x5r
  obtain ⟨x6, hx6⟩ : ∃ z, (xs (i0 + 6)).toInt = z := ⟨_, rfl⟩
  have x6r := c_rng (xs (i0 + 6))
  rw [hx6] at x6r
  obtain ⟨x7, hx7⟩ : ∃ z, (xs (i0 + 7)).toInt = z := ⟨_, rfl⟩
  have x7r := c_rng (xs (i0 + 7))
  rw [hx7] at x7r
  have hT := rl_t hR
  have hU := rl_u hR
  have hP := iv_P hI
  have hQ := iv_Q hI
  refine q_aload_n rfl rfl ?_
  refine q_aload_n rfl rfl ?_
  refine q_iload rfl rfl ?_
  refine q_iconst rfl ?_
  refine v_iadd (v := (i0 : Int) + 1) rfl (by omega) ?_
  refine v_scr (j := i0 + 1) rfl (by omega) (by omega) hL hx1 ?_
  refine q_aload_n rfl rfl ?_
  refine q_call rfl rfl rfl rfl ?_
  refine q_aload_n rfl rfl ?_
  refine q_iconst rfl ?_
  refine q_aload_n rfl rfl ?_
  refine q_iload_n rfl rfl ?_
  have h_1 := ir_1_3 hI
  refine v_cv rfl rfl rfl rfl (by decide) ⟨⟨rfl, rfl⟩, by decide, rfl⟩ (Nat.le_of_ble_eq_true rfl) (Nat.le_of_ble_eq_true rfl) (s_86 (a1 := x1) hI (show (-2147483648) ≤ x1 ∧ x1 ≤ 2147483647 from by omega) (fun c_2 hI_3 hF_4 h_5 h_6 => ?_) (fun c_7 y_10 hI_8 hF_9 hy_10 h_11 => ?_))
  · skip
    have h_12 := ir_1_3 hI_3
    refine bk_thr (z := Int32.ofInt 1) rfl ⟨_, _, rfl⟩ rfl ?_
    refine bk_inl ?_
    refine q_istore rfl (by decide) ?_
    refine q_aload_n rfl rfl ?_
    refine q_aload_n rfl rfl ?_
    refine q_iload rfl rfl ?_
    refine q_iconst rfl ?_
    refine v_iadd (v := (i0 : Int) + 1) rfl (by omega) ?_
    refine v_scr (j := i0 + 1) rfl (by omega) (by omega) hL hx1 ?_
    have h_13 := ir_41_2 hI
    have kn_14 : Hid (c_2 41 2 = c 41 2) := hF_4 41 2 (fun h => absurd h.1 (nn rfl))
    have h_15 : c_2 41 2 = c 41 2 := (hid kn_14)
    refine v_cv rfl rfl rfl rfl (by decide) ⟨⟨rfl, rfl⟩, by decide, rfl⟩ (Nat.le_of_ble_eq_true rfl) (Nat.le_of_ble_eq_true rfl) (s_202 (a1 := x1) hI_3 (show (-2147483648) ≤ x1 ∧ x1 ≤ 2147483647 from by omega) (fun c_16 y_19 hI_17 hF_18 hy_19 h_20 => ?_))
    refine bk_inl ?_
    have h_21 := ir_41_2 hI_17
    refine q_istore rfl (by decide) ?_
    refine q_goto (t := 1844) rfl (by decide) ?_
    refine Wp_ls [(4, vi (i0 : Int)), (3, .ref 67), (2, .ref 41), (1, .ref 0), (0, .ref a_SC)] (lsub_cons rfl (lsub_cons rfl (lsub_cons rfl (lsub_cons rfl (lsub_cons rfl lsub_nil))))) ?_
    have kn_22 : Hid (c_2 1 3 = c 1 3) := hF_4 1 3 (fun h => absurd h.1 (nn rfl))
    have kn_23 : Hid (c_16 1 3 = c 1 3) := (hF_18 1 3 (fun q => q.elim (fun h => absurd h.1 (nn rfl)) (fun q => q.elim (fun h => absurd h (nn rfl)) (fun q => q.elim (fun h => absurd h.1 (nn rfl)) (fun q => q.elim (fun h => absurd h.1 (nn rfl)) (fun q => q.elim (fun h => absurd h.1 (nn rfl)) (fun q => q.elim (fun h => absurd h.1 (nn rfl)) (fun q => q.elim (fun h => absurd h.1 (nn rfl)) (fun q => q.elim (fun h => absurd h.1 (nn rfl)) (fun q => q.elim (fun h => absurd h.1 (nn rfl)) (fun q => q.elim (fun h => absurd h.1 (nn rfl)) (fun q => q.elim (fun h => absurd h (nn rfl)) (fun q => q.elim (fun h => absurd h (nn rfl)) (fun q => q.elim (fun h => absurd h (nn rfl)) (fun q => q.elim (fun h => absurd h.1 (nn rfl)) (fun q => q.elim (fun h => absurd h.1 (nn rfl)) (fun q => q.elim (fun h => absurd h.1 (nn rfl)) (fun q => q.elim (fun h => absurd h.1 (nn rfl)) (fun q => q.elim (fun h => absurd h.1 (nn rfl)) (fun q => q.elim (fun h => absurd h (nn rfl)) (fun q => q.elim (fun h => absurd h (nn rfl)) (fun q => q.elim (fun h => absurd h (nn rfl)) (fun h => absurd h (nn rfl)))))))))))))))))))))))).trans (hid kn_22)
    have h_24 : c_16 1 3 = c 1 3 := (hid kn_23)
    have h_25 : c_16 41 2 = c_16 41 2 := rfl
    exact K P Q c_16 1 (by decide) hI_17 ⟨by omega, ub_fr hU (fun j => (hF_18 2 j (fun q => q.elim (fun h => absurd h.1 (nn rfl)) (fun q => q.elim (fun h => absurd h (nn rfl)) (fun q => q.elim (fun h => absurd h.1 (nn rfl)) (fun q => q.elim (fun h => absurd h.1 (nn rfl)) (fun q => q.elim (fun h => absurd h.1 (nn rfl)) (fun q => q.elim (fun h => absurd h.1 (nn rfl)) (fun q => q.elim (fun h => absurd h.1 (nn rfl)) (fun q => q.elim (fun h => absurd h.1 (nn rfl)) (fun q => q.elim (fun h => absurd h.1 (nn rfl)) (fun q => q.elim (fun h => absurd h.1 (nn rfl)) (fun q => q.elim (fun h => absurd h (nn rfl)) (fun q => q.elim (fun h => absurd h (nn rfl)) (fun q => q.elim (fun h => absurd h (nn rfl)) (fun q => q.elim (fun h => absurd h.1 (nn rfl)) (fun q => q.elim (fun h => absurd h.1 (nn rfl)) (fun q => q.elim (fun h => absurd h.1 (nn rfl)) (fun q => q.elim (fun h => absurd h.1 (nn rfl)) (fun q => q.elim (fun h => absurd h.1 (nn rfl)) (fun q => q.elim (fun h => absurd h (nn rfl)) (fun q => q.elim (fun h => absurd h (nn rfl)) (fun q => q.elim (fun h => absurd h (nn rfl)) (fun h => absurd h (nn rfl)))))))))))))))))))))))).trans (hF_4 2 j (fun h => absurd h.1 (nn rfl)))) (fun j => (hF_18 43 j (fun q => q.elim (fun h => absurd h.1 (nn rfl)) (fun q => q.elim (fun h => absurd h (nn rfl)) (fun q => q.elim (fun h => absurd h.1 (nn rfl)) (fun q => q.elim (fun h => absurd h.1 (nn rfl)) (fun q => q.elim (fun h => absurd h.1 (nn rfl)) (fun q => q.elim (fun h => absurd h.1 (nn rfl)) (fun q => q.elim (fun h => absurd h.1 (nn rfl)) (fun q => q.elim (fun h => absurd h.1 (nn rfl)) (fun q => q.elim (fun h => absurd h.1 (nn rfl)) (fun q => q.elim (fun h => absurd h.1 (nn rfl)) (fun q => q.elim (fun h => absurd h (nn rfl)) (fun q => q.elim (fun h => absurd h (nn rfl)) (fun q => q.elim (fun h => absurd h (nn rfl)) (fun q => q.elim (fun h => absurd h.1 (nn rfl)) (fun q => q.elim (fun h => absurd h.1 (nn rfl)) (fun q => q.elim (fun h => absurd h.1 (nn rfl)) (fun q => q.elim (fun h => absurd h.1 (nn rfl)) (fun q => q.elim (fun h => absurd h.1 (nn rfl)) (fun q => q.elim (fun h => absurd h (nn rfl)) (fun q => q.elim (fun h => absurd h (nn rfl)) (fun q => q.elim (fun h => absurd h (nn rfl)) (fun h => absurd h (nn rfl)))))))))))))))))))))))).trans (hF_4 43 j (fun h => absurd h.1 (nn rfl))))⟩
  refine bk_inl ?_
  have h_26 := ir_1_3 hI_8
  refine v_i2l rfl (by omega) ?_
  refine v_ls rfl rfl (by decide) (by decide) (by decide) ?_
  refine q_goto (t := 15) rfl (by decide) ?_
  refine q_iconst rfl ?_
  refine q_iret rfl rfl ?_
  refine bk_inl ?_
  refine q_istore rfl (by decide) ?_
  refine q_aload_n rfl rfl ?_
  refine q_aload_n rfl rfl ?_
  refine q_iload rfl rfl ?_
  refine q_iconst rfl ?_
  refine v_iadd (v := (i0 : Int) + 1) rfl (by omega) ?_
  refine v_scr (j := i0 + 1) rfl (by omega) (by omega) hL hx1 ?_
  have hI_27 := iw_lx (a := 67) (j := 0) (v := y_10) hI_8 (by omega)
  have h_28 := ir_41_2 hI
  have kn_29 : Hid (c_7 41 2 = c 41 2) := hF_9 41 2 (fun q => q.elim (fun h => absurd h.1 (nn rfl)) (fun q => q.elim (fun h => absurd h.1 (nn rfl)) (fun q => q.elim (fun h => absurd h.1 (nn rfl)) (fun q => q.elim (fun h => absurd h.1 (nn rfl)) (fun q => q.elim (fun h => absurd h.1 (nn rfl)) (fun q => q.elim (fun h => absurd h.1 (nn rfl)) (fun q => q.elim (fun h => absurd h.1 (nn rfl)) (fun q => q.elim (fun h => absurd h.1 (nn rfl)) (fun q => q.elim (fun h => absurd h.1 (nn rfl)) (fun q => q.elim (fun h => absurd h.1 (nn rfl)) (fun q => q.elim (fun h => absurd h (nn rfl)) (fun q => q.elim (fun h => absurd h.1 (nn rfl)) (fun q => q.elim (fun h => absurd h (nn rfl)) (fun q => q.elim (fun h => absurd h (nn rfl)) (fun q => q.elim (fun h => absurd h.1 (nn rfl)) (fun q => q.elim (fun h => absurd h (pn hP rfl rfl)) (fun h => absurd h (pn hP rfl rfl))))))))))))))))))
  have h_30 : (up c_7 67 0 y_10) 41 2 = c 41 2 := ((up_c (nn rfl)).trans (hid kn_29))
  refine v_cv rfl rfl rfl rfl (by decide) ⟨⟨rfl, rfl⟩, by decide, rfl⟩ (Nat.le_of_ble_eq_true rfl) (Nat.le_of_ble_eq_true rfl) (s_202 (a1 := x1) hI_27 (show (-2147483648) ≤ x1 ∧ x1 ≤ 2147483647 from by omega) (fun c_31 y_34 hI_32 hF_33 hy_34 h_35 => ?_))
  refine bk_inl ?_
  have h_36 := ir_41_2 hI_32
  refine q_istore rfl (by decide) ?_
  refine q_goto (t := 1844) rfl (by decide) ?_
  refine Wp_ls [(4, vi (i0 : Int)), (3, .ref 67), (2, .ref 41), (1, .ref 0), (0, .ref a_SC)] (lsub_cons rfl (lsub_cons rfl (lsub_cons rfl (lsub_cons rfl (lsub_cons rfl lsub_nil))))) ?_
  have kn_37 : Hid (c_31 1 3 = c_7 1 3) := (hF_33 1 3 (fun q => q.elim (fun h => absurd h.1 (nn rfl)) (fun q => q.elim (fun h => absurd h (nn rfl)) (fun q => q.elim (fun h => absurd h.1 (nn rfl)) (fun q => q.elim (fun h => absurd h.1 (nn rfl)) (fun q => q.elim (fun h => absurd h.1 (nn rfl)) (fun q => q.elim (fun h => absurd h.1 (nn rfl)) (fun q => q.elim (fun h => absurd h.1 (nn rfl)) (fun q => q.elim (fun h => absurd h.1 (nn rfl)) (fun q => q.elim (fun h => absurd h.1 (nn rfl)) (fun q => q.elim (fun h => absurd h.1 (nn rfl)) (fun q => q.elim (fun h => absurd h (nn rfl)) (fun q => q.elim (fun h => absurd h (nn rfl)) (fun q => q.elim (fun h => absurd h (nn rfl)) (fun q => q.elim (fun h => absurd h.1 (nn rfl)) (fun q => q.elim (fun h => absurd h.1 (nn rfl)) (fun q => q.elim (fun h => absurd h.1 (nn rfl)) (fun q => q.elim (fun h => absurd h.1 (nn rfl)) (fun q => q.elim (fun h => absurd h.1 (nn rfl)) (fun q => q.elim (fun h => absurd h (nn rfl)) (fun q => q.elim (fun h => absurd h (nn rfl)) (fun q => q.elim (fun h => absurd h (nn rfl)) (fun h => absurd h (nn rfl)))))))))))))))))))))))).trans (up_c (nn rfl))
  have h_38 : c_31 1 3 = c_7 1 3 := (hid kn_37)
  have h_39 : c_31 41 2 = c_31 41 2 := rfl
  exact K P Q c_31 0 (by decide) hI_32 ⟨by omega, ub_fr hU (fun j => (hF_33 2 j (fun q => q.elim (fun h => absurd h.1 (nn rfl)) (fun q => q.elim (fun h => absurd h (nn rfl)) (fun q => q.elim (fun h => absurd h.1 (nn rfl)) (fun q => q.elim (fun h => absurd h.1 (nn rfl)) (fun q => q.elim (fun h => absurd h.1 (nn rfl)) (fun q => q.elim (fun h => absurd h.1 (nn rfl)) (fun q => q.elim (fun h => absurd h.1 (nn rfl)) (fun q => q.elim (fun h => absurd h.1 (nn rfl)) (fun q => q.elim (fun h => absurd h.1 (nn rfl)) (fun q => q.elim (fun h => absurd h.1 (nn rfl)) (fun q => q.elim (fun h => absurd h (nn rfl)) (fun q => q.elim (fun h => absurd h (nn rfl)) (fun q => q.elim (fun h => absurd h (nn rfl)) (fun q => q.elim (fun h => absurd h.1 (nn rfl)) (fun q => q.elim (fun h => absurd h.1 (nn rfl)) (fun q => q.elim (fun h => absurd h.1 (nn rfl)) (fun q => q.elim (fun h => absurd h.1 (nn rfl)) (fun q => q.elim (fun h => absurd h.1 (nn rfl)) (fun q => q.elim (fun h => absurd h (nn rfl)) (fun q => q.elim (fun h => absurd h (nn rfl)) (fun q => q.elim (fun h => absurd h (nn rfl)) (fun h => absurd h (nn rfl)))))))))))))))))))))))).trans ((up_c (nn rfl)).trans (hF_9 2 j (fun q => q.elim (fun h => absurd h.1 (nn rfl)) (fun q => q.elim (fun h => absurd h.1 (nn rfl)) (fun q => q.elim (fun h => absurd h.1 (nn rfl)) (fun q => q.elim (fun h => absurd h.1 (nn rfl)) (fun q => q.elim (fun h => absurd h.1 (nn rfl)) (fun q => q.elim (fun h => absurd h.1 (nn rfl)) (fun q => q.elim (fun h => absurd h.1 (nn rfl)) (fun q => q.elim (fun h => absurd h.1 (nn rfl)) (fun q => q.elim (fun h => absurd h.1 (nn rfl)) (fun q => q.elim (fun h => absurd h.1 (nn rfl)) (fun q => q.elim (fun h => absurd h (nn rfl)) (fun q => q.elim (fun h => absurd h.1 (nn rfl)) (fun q => q.elim (fun h => absurd h (nn rfl)) (fun q => q.elim (fun h => absurd h (nn rfl)) (fun q => q.elim (fun h => absurd h.1 (nn rfl)) (fun q => q.elim (fun h => absurd h (pn hP rfl rfl)) (fun h => absurd h (pn hP rfl rfl))))))))))))))))))))) (fun j => (hF_33 43 j (fun q => q.elim (fun h => absurd h.1 (nn rfl)) (fun q => q.elim (fun h => absurd h (nn rfl)) (fun q => q.elim (fun h => absurd h.1 (nn rfl)) (fun q => q.elim (fun h => absurd h.1 (nn rfl)) (fun q => q.elim (fun h => absurd h.1 (nn rfl)) (fun q => q.elim (fun h => absurd h.1 (nn rfl)) (fun q => q.elim (fun h => absurd h.1 (nn rfl)) (fun q => q.elim (fun h => absurd h.1 (nn rfl)) (fun q => q.elim (fun h => absurd h.1 (nn rfl)) (fun q => q.elim (fun h => absurd h.1 (nn rfl)) (fun q => q.elim (fun h => absurd h (nn rfl)) (fun q => q.elim (fun h => absurd h (nn rfl)) (fun q => q.elim (fun h => absurd h (nn rfl)) (fun q => q.elim (fun h => absurd h.1 (nn rfl)) (fun q => q.elim (fun h => absurd h.1 (nn rfl)) (fun q => q.elim (fun h => absurd h.1 (nn rfl)) (fun q => q.elim (fun h => absurd h.1 (nn rfl)) (fun q => q.elim (fun h => absurd h.1 (nn rfl)) (fun q => q.elim (fun h => absurd h (nn rfl)) (fun q => q.elim (fun h => absurd h (nn rfl)) (fun q => q.elim (fun h => absurd h (nn rfl)) (fun h => absurd h (nn rfl)))))))))))))))))))))))).trans ((up_c (nn rfl)).trans (hF_9 43 j (fun q => q.elim (fun h => absurd h.1 (nn rfl)) (fun q => q.elim (fun h => absurd h.1 (nn rfl)) (fun q => q.elim (fun h => absurd h.1 (nn rfl)) (fun q => q.elim (fun h => absurd h.1 (nn rfl)) (fun q => q.elim (fun h => absurd h.1 (nn rfl)) (fun q => q.elim (fun h => absurd h.1 (nn rfl)) (fun q => q.elim (fun h => absurd h.1 (nn rfl)) (fun q => q.elim (fun h => absurd h.1 (nn rfl)) (fun q => q.elim (fun h => absurd h.1 (nn rfl)) (fun q => q.elim (fun h => absurd h.1 (nn rfl)) (fun q => q.elim (fun h => absurd h (nn rfl)) (fun q => q.elim (fun h => absurd h.1 (nn rfl)) (fun q => q.elim (fun h => absurd h (nn rfl)) (fun q => q.elim (fun h => absurd h (nn rfl)) (fun q => q.elim (fun h => absurd h.1 (nn rfl)) (fun q => q.elim (fun h => absurd h (pn hP rfl rfl)) (fun h => absurd h (pn hP rfl rfl)))))))))))))))))))))⟩

set_option maxRecDepth 100000 in
set_option maxHeartbeats 4000000 in
theorem o_4 {xs : Nat → Int32} {L i0 d nc ns P Q : Nat} {c : ME} {Z : AR → Prop} (hi : i0 + 8 ≤ L) (hL : L ≤ 100000) (hI : Iv 0 (-1) P Q c) (hR : Rq P c) (K : ∀ (P2 Q2 : Nat) (c2 : ME) (e : Nat), e ≤ 1 → Iv 0 (-1) P2 Q2 c2 → (Rq P2 c2) → Wp (a_scr L xs) (d + 90) 296 1844 [(4, vi (i0 : Int)), (3, .ref 67), (2, .ref 41), (1, .ref 0), (0, .ref a_SC)] [] (Wd P2 Q2 P2 P2 c2) (nc + e) (ns + 6 * e) Z) : Wp (a_scr L xs) (d + 90) 296 413 [(4, vi (i0 : Int)), (3, .ref 67), (2, .ref 41), (1, .ref 0), (0, .ref a_SC)] [] (Wd P Q P P c) nc ns Z := by
  obtain ⟨x1, hx1⟩ : ∃ z, (xs (i0 + 1)).toInt = z := ⟨_, rfl⟩
  have x1r := c_rng (xs (i0 + 1))
  rw [hx1] at x1r
  obtain ⟨x2, hx2⟩ : ∃ z, (xs (i0 + 2)).toInt = z := ⟨_, rfl⟩
  have x2r := c_rng (xs (i0 + 2))
  rw [hx2] at x2r
  obtain ⟨x3, hx3⟩ : ∃ z, (xs (i0 + 3)).toInt = z := ⟨_, rfl⟩
  have x3r := c_rng (xs (i0 + 3))
  rw [hx3] at x3r
  obtain ⟨x4, hx4⟩ : ∃ z, (xs (i0 + 4)).toInt = z := ⟨_, rfl⟩
  have x4r := c_rng (xs (i0 + 4))
  rw [hx4] at x4r
  obtain ⟨x5, hx5⟩ : ∃ z, (xs (i0 + 5)).toInt = z := ⟨_, rfl⟩
  have x5r := c_rng (xs (i0 + 5))
  rw [hx5] at x5r
  obtain ⟨x6, hx6⟩ : ∃ z, (xs (i0 + 6)).toInt = z := ⟨_, rfl⟩
  have x6r := c_rng (xs (i0 + 6))
  rw [hx6] at x6r
  obtain ⟨x7, hx7⟩ : ∃ z, (xs (i0 + 7)).toInt = z := ⟨_, rfl⟩
  have x7r := c_rng (xs (i0 + 7))
  rw [hx7] at x7r
  have hT := rl_t hR
  have hU := rl_u hR
  have hP := iv_P hI
  have hQ := iv_Q hI
  refine q_aload_n rfl rfl ?_
  refine q_aload_n rfl rfl ?_
  refine q_iload rfl rfl ?_
  refine q_iconst rfl ?_
  refine v_iadd (v := (i0 : Int) + 1) rfl (by omega) ?_
  refine v_scr (j := i0 + 1) rfl (by omega) (by omega) hL hx1 ?_
  refine q_aload_n rfl rfl ?_
  refine q_call rfl rfl rfl rfl ?_
  refine q_aload_n rfl rfl ?_
  refine q_iconst rfl ?_
  refine q_aload_n rfl rfl ?_
  refine q_iload_n rfl rfl ?_
  have h_1 := ir_1_3 hI
  refine v_cv rfl rfl rfl rfl (by decide) ⟨⟨rfl, rfl⟩, by decide, rfl⟩ (Nat.le_of_ble_eq_true rfl) (Nat.le_of_ble_eq_true rfl) (s_87 (a1 := x1) hI (show (-2147483648) ≤ x1 ∧ x1 ≤ 2147483647 from by omega) (fun c_2 hI_3 hF_4 h_5 h_6 => ?_) (fun c_7 y_10 hI_8 hF_9 hy_10 h_11 => ?_))
  · skip
    have h_12 := ir_1_3 hI_3
    refine bk_thr (z := Int32.ofInt 1) rfl ⟨_, _, rfl⟩ rfl ?_
    refine bk_inl ?_
    refine q_istore rfl (by decide) ?_
    refine q_aload_n rfl rfl ?_
    refine q_aload_n rfl rfl ?_
    refine q_iload rfl rfl ?_
    refine q_iconst rfl ?_
    refine v_iadd (v := (i0 : Int) + 1) rfl (by omega) ?_
    refine v_scr (j := i0 + 1) rfl (by omega) (by omega) hL hx1 ?_
    have h_13 := ir_41_2 hI
    have kn_14 : Hid (c_2 41 2 = c 41 2) := hF_4 41 2 (fun h => absurd h.1 (nn rfl))
    have h_15 : c_2 41 2 = c 41 2 := (hid kn_14)
    refine v_cv rfl rfl rfl rfl (by decide) ⟨⟨rfl, rfl⟩, by decide, rfl⟩ (Nat.le_of_ble_eq_true rfl) (Nat.le_of_ble_eq_true rfl) (s_206 (a1 := x1) hI_3 (show (-2147483648) ≤ x1 ∧ x1 ≤ 2147483647 from by omega) (fun c_16 y_19 hI_17 hF_18 hy_19 h_20 => ?_))
    refine bk_inl ?_
    have h_21 := ir_41_2 hI_17
    refine q_istore rfl (by decide) ?_
    refine q_goto (t := 1844) rfl (by decide) ?_
    refine Wp_ls [(4, vi (i0 : Int)), (3, .ref 67), (2, .ref 41), (1, .ref 0), (0, .ref a_SC)] (lsub_cons rfl (lsub_cons rfl (lsub_cons rfl (lsub_cons rfl (lsub_cons rfl lsub_nil))))) ?_
    have kn_22 : Hid (c_2 1 3 = c 1 3) := hF_4 1 3 (fun h => absurd h.1 (nn rfl))
    have kn_23 : Hid (c_16 1 3 = c 1 3) := (hF_18 1 3 (fun q => q.elim (fun h => absurd h.1 (nn rfl)) (fun q => q.elim (fun h => absurd h (nn rfl)) (fun q => q.elim (fun h => absurd h.1 (nn rfl)) (fun q => q.elim (fun h => absurd h.1 (nn rfl)) (fun q => q.elim (fun h => absurd h.1 (nn rfl)) (fun q => q.elim (fun h => absurd h.1 (nn rfl)) (fun q => q.elim (fun h => absurd h.1 (nn rfl)) (fun q => q.elim (fun h => absurd h.1 (nn rfl)) (fun q => q.elim (fun h => absurd h.1 (nn rfl)) (fun q => q.elim (fun h => absurd h.1 (nn rfl)) (fun q => q.elim (fun h => absurd h (nn rfl)) (fun h => absurd h (nn rfl)))))))))))))).trans (hid kn_22)
    have h_24 : c_16 1 3 = c 1 3 := (hid kn_23)
    have h_25 : c_16 41 2 = c_16 41 2 := rfl
    exact K P Q c_16 1 (by decide) hI_17 ⟨by omega, ub_fr hU (fun j => (hF_18 2 j (fun q => q.elim (fun h => absurd h.1 (nn rfl)) (fun q => q.elim (fun h => absurd h (nn rfl)) (fun q => q.elim (fun h => absurd h.1 (nn rfl)) (fun q => q.elim (fun h => absurd h.1 (nn rfl)) (fun q => q.elim (fun h => absurd h.1 (nn rfl)) (fun q => q.elim (fun h => absurd h.1 (nn rfl)) (fun q => q.elim (fun h => absurd h.1 (nn rfl)) (fun q => q.elim (fun h => absurd h.1 (nn rfl)) (fun q => q.elim (fun h => absurd h.1 (nn rfl)) (fun q => q.elim (fun h => absurd h.1 (nn rfl)) (fun q => q.elim (fun h => absurd h (nn rfl)) (fun h => absurd h (nn rfl)))))))))))))).trans (hF_4 2 j (fun h => absurd h.1 (nn rfl)))) (fun j => (hF_18 43 j (fun q => q.elim (fun h => absurd h.1 (nn rfl)) (fun q => q.elim (fun h => absurd h (nn rfl)) (fun q => q.elim (fun h => absurd h.1 (nn rfl)) (fun q => q.elim (fun h => absurd h.1 (nn rfl)) (fun q => q.elim (fun h => absurd h.1 (nn rfl)) (fun q => q.elim (fun h => absurd h.1 (nn rfl)) (fun q => q.elim (fun h => absurd h.1 (nn rfl)) (fun q => q.elim (fun h => absurd h.1 (nn rfl)) (fun q => q.elim (fun h => absurd h.1 (nn rfl)) (fun q => q.elim (fun h => absurd h.1 (nn rfl)) (fun q => q.elim (fun h => absurd h (nn rfl)) (fun h => absurd h (nn rfl)))))))))))))).trans (hF_4 43 j (fun h => absurd h.1 (nn rfl))))⟩
  refine bk_inl ?_
  have h_26 := ir_1_3 hI_8
  refine v_i2l rfl (by omega) ?_
  refine v_ls rfl rfl (by decide) (by decide) (by decide) ?_
  refine q_goto (t := 15) rfl (by decide) ?_
  refine q_iconst rfl ?_
  refine q_iret rfl rfl ?_
  refine bk_inl ?_
  refine q_istore rfl (by decide) ?_
  refine q_aload_n rfl rfl ?_
  refine q_aload_n rfl rfl ?_
  refine q_iload rfl rfl ?_
  refine q_iconst rfl ?_
  refine v_iadd (v := (i0 : Int) + 1) rfl (by omega) ?_
  refine v_scr (j := i0 + 1) rfl (by omega) (by omega) hL hx1 ?_
  have hI_27 := iw_lx (a := 67) (j := 0) (v := y_10) hI_8 (by omega)
  have h_28 := ir_41_2 hI
  have kn_29 : Hid (c_7 41 2 = c 41 2) := hF_9 41 2 (fun q => q.elim (fun h => absurd h.1 (nn rfl)) (fun q => q.elim (fun h => absurd h.1 (nn rfl)) (fun q => q.elim (fun h => absurd h.1 (nn rfl)) (fun q => q.elim (fun h => absurd h.1 (nn rfl)) (fun q => q.elim (fun h => absurd h.1 (nn rfl)) (fun q => q.elim (fun h => absurd h.1 (nn rfl)) (fun q => q.elim (fun h => absurd h.1 (pn0 hP rfl)) (fun q => q.elim (fun h => absurd h (pn hP rfl rfl)) (fun h => absurd h (pn hP rfl rfl))))))))))
  have h_30 : (up c_7 67 0 y_10) 41 2 = c 41 2 := ((up_c (nn rfl)).trans (hid kn_29))
  refine v_cv rfl rfl rfl rfl (by decide) ⟨⟨rfl, rfl⟩, by decide, rfl⟩ (Nat.le_of_ble_eq_true rfl) (Nat.le_of_ble_eq_true rfl) (s_206 (a1 := x1) hI_27 (show (-2147483648) ≤ x1 ∧ x1 ≤ 2147483647 from by omega) (fun c_31 y_34 hI_32 hF_33 hy_34 h_35 => ?_))
  refine bk_inl ?_
  have h_36 := ir_41_2 hI_32
  refine q_istore rfl (by decide) ?_
  refine q_goto (t := 1844) rfl (by decide) ?_
  refine Wp_ls [(4, vi (i0 : Int)), (3, .ref 67), (2, .ref 41), (1, .ref 0), (0, .ref a_SC)] (lsub_cons rfl (lsub_cons rfl (lsub_cons rfl (lsub_cons rfl (lsub_cons rfl lsub_nil))))) ?_
  have kn_37 : Hid (c_31 1 3 = c_7 1 3) := (hF_33 1 3 (fun q => q.elim (fun h => absurd h.1 (nn rfl)) (fun q => q.elim (fun h => absurd h (nn rfl)) (fun q => q.elim (fun h => absurd h.1 (nn rfl)) (fun q => q.elim (fun h => absurd h.1 (nn rfl)) (fun q => q.elim (fun h => absurd h.1 (nn rfl)) (fun q => q.elim (fun h => absurd h.1 (nn rfl)) (fun q => q.elim (fun h => absurd h.1 (nn rfl)) (fun q => q.elim (fun h => absurd h.1 (nn rfl)) (fun q => q.elim (fun h => absurd h.1 (nn rfl)) (fun q => q.elim (fun h => absurd h.1 (nn rfl)) (fun q => q.elim (fun h => absurd h (nn rfl)) (fun h => absurd h (nn rfl)))))))))))))).trans (up_c (nn rfl))
  have h_38 : c_31 1 3 = c_7 1 3 := (hid kn_37)
  have h_39 : c_31 41 2 = c_31 41 2 := rfl
  exact K P Q c_31 0 (by decide) hI_32 ⟨by omega, ub_fr hU (fun j => (hF_33 2 j (fun q => q.elim (fun h => absurd h.1 (nn rfl)) (fun q => q.elim (fun h => absurd h (nn rfl)) (fun q => q.elim (fun h => absurd h.1 (nn rfl)) (fun q => q.elim (fun h => absurd h.1 (nn rfl)) (fun q => q.elim (fun h => absurd h.1 (nn rfl)) (fun q => q.elim (fun h => absurd h.1 (nn rfl)) (fun q => q.elim (fun h => absurd h.1 (nn rfl)) (fun q => q.elim (fun h => absurd h.1 (nn rfl)) (fun q => q.elim (fun h => absurd h.1 (nn rfl)) (fun q => q.elim (fun h => absurd h.1 (nn rfl)) (fun q => q.elim (fun h => absurd h (nn rfl)) (fun h => absurd h (nn rfl)))))))))))))).trans ((up_c (nn rfl)).trans (hF_9 2 j (fun q => q.elim (fun h => absurd h.1 (nn rfl)) (fun q => q.elim (fun h => absurd h.1 (nn rfl)) (fun q => q.elim (fun h => absurd h.1 (nn rfl)) (fun q => q.elim (fun h => absurd h.1 (nn rfl)) (fun q => q.elim (fun h => absurd h.1 (nn rfl)) (fun q => q.elim (fun h => absurd h.1 (nn rfl)) (fun q => q.elim (fun h => absurd h.1 (pn0 hP rfl)) (fun q => q.elim (fun h => absurd h (pn hP rfl rfl)) (fun h => absurd h (pn hP rfl rfl))))))))))))) (fun j => (hF_33 43 j (fun q => q.elim (fun h => absurd h.1 (nn rfl)) (fun q => q.elim (fun h => absurd h (nn rfl)) (fun q => q.elim (fun h => absurd h.1 (nn rfl)) (fun q => q.elim (fun h => absurd h.1 (nn rfl)) (fun q => q.elim (fun h => absurd h.1 (nn rfl)) (fun q => q.elim (fun h => absurd h.1 (nn rfl)) (fun q => q.elim (fun h => absurd h.1 (nn rfl)) (fun q => q.elim (fun h => absurd h.1 (nn rfl)) (fun q => q.elim (fun h => absurd h.1 (nn rfl)) (fun q => q.elim (fun h => absurd h.1 (nn rfl)) (fun q => q.elim (fun h => absurd h (nn rfl)) (fun h => absurd h (nn rfl)))))))))))))).trans ((up_c (nn rfl)).trans (hF_9 43 j (fun q => q.elim (fun h => absurd h.1 (nn rfl)) (fun q => q.elim (fun h => absurd h.1 (nn rfl)) (fun q => q.elim (fun h => absurd h.1 (nn rfl)) (fun q => q.elim (fun h => absurd h.1 (nn rfl)) (fun q => q.elim (fun h => absurd h.1 (nn rfl)) (fun q => q.elim (fun h => absurd h.1 (nn rfl)) (fun q => q.elim (fun h => absurd h.1 (pn0 hP rfl)) (fun q => q.elim (fun h => absurd h (pn hP rfl rfl)) (fun h => absurd h (pn hP rfl rfl)))))))))))))⟩

set_option maxRecDepth 100000 in
set_option maxHeartbeats 4000000 in
theorem o_5 {xs : Nat → Int32} {L i0 d nc ns P Q : Nat} {c : ME} {Z : AR → Prop} (hi : i0 + 8 ≤ L) (hL : L ≤ 100000) (hI : Iv 0 (-1) P Q c) (hR : Rq P c) (K : ∀ (P2 Q2 : Nat) (c2 : ME) (e : Nat), e ≤ 1 → Iv 0 (-1) P2 Q2 c2 → (Rq P2 c2) → Wp (a_scr L xs) (d + 90) 296 1844 [(4, vi (i0 : Int)), (3, .ref 67), (2, .ref 41), (1, .ref 0), (0, .ref a_SC)] [] (Wd P2 Q2 P2 P2 c2) (nc + e) (ns + 6 * e) Z) : Wp (a_scr L xs) (d + 90) 296 441 [(4, vi (i0 : Int)), (3, .ref 67), (2, .ref 41), (1, .ref 0), (0, .ref a_SC)] [] (Wd P Q P P c) nc ns Z := by
  obtain ⟨x1, hx1⟩ : ∃ z, (xs (i0 + 1)).toInt = z := ⟨_, rfl⟩
  have x1r := c_rng (xs (i0 + 1))
  rw [hx1] at x1r
  obtain ⟨x2, hx2⟩ : ∃ z, (xs (i0 + 2)).toInt = z := ⟨_, rfl⟩
  have x2r := c_rng (xs (i0 + 2))
  rw [hx2] at x2r
  obtain ⟨x3, hx3⟩ : ∃ z, (xs (i0 + 3)).toInt = z := ⟨_, rfl⟩
  have x3r := c_rng (xs (i0 + 3))
  rw [hx3] at x3r
  obtain ⟨x4, hx4⟩ : ∃ z, (xs (i0 + 4)).toInt = z := ⟨_, rfl⟩
  have x4r := c_rng (xs (i0 + 4))
  rw [hx4] at x4r
  obtain ⟨x5, hx5⟩ : ∃ z, (xs (i0 + 5)).toInt = z := ⟨_, rfl⟩
  have x5r := c_rng (xs (i0 + 5))
  rw [hx5] at x5r
  obtain ⟨x6, hx6⟩ : ∃ z, (xs (i0 + 6)).toInt = z := ⟨_, rfl⟩
  have x6r := c_rng (xs (i0 + 6))
  rw [hx6] at x6r
  obtain ⟨x7, hx7⟩ : ∃ z, (xs (i0 + 7)).toInt = z := ⟨_, rfl⟩
  have x7r := c_rng (xs (i0 + 7))
  rw [hx7] at x7r
  have hT := rl_t hR
  have hU := rl_u hR
  have hP := iv_P hI
  have hQ := iv_Q hI
  refine q_aload_n rfl rfl ?_
  refine q_aload_n rfl rfl ?_
  refine q_iload rfl rfl ?_
  refine q_iconst rfl ?_
  refine v_iadd (v := (i0 : Int) + 1) rfl (by omega) ?_
  refine v_scr (j := i0 + 1) rfl (by omega) (by omega) hL hx1 ?_
  refine q_aload_n rfl rfl ?_
  refine q_call rfl rfl rfl rfl ?_
  refine q_aload_n rfl rfl ?_
  refine q_iconst rfl ?_
  refine q_aload_n rfl rfl ?_
  refine q_iload_n rfl rfl ?_
  have h_1 := ir_1_3 hI
  refine v_cv rfl rfl rfl rfl (by decide) ⟨⟨rfl, rfl⟩, by decide, rfl⟩ (Nat.le_of_ble_eq_true rfl) (Nat.le_of_ble_eq_true rfl) (s_88 (a1 := x1) hI (show (-2147483648) ≤ x1 ∧ x1 ≤ 2147483647 from by omega) (fun c_2 hI_3 hF_4 h_5 h_6 => ?_) (fun c_7 y_10 hI_8 hF_9 hy_10 h_11 => ?_))
  · skip
    have h_12 := ir_1_3 hI_3
    refine bk_thr (z := Int32.ofInt 1) rfl ⟨_, _, rfl⟩ rfl ?_
    refine bk_inl ?_
    refine q_istore rfl (by decide) ?_
    refine q_aload_n rfl rfl ?_
    refine q_aload_n rfl rfl ?_
    refine q_iload rfl rfl ?_
    refine q_iconst rfl ?_
    refine v_iadd (v := (i0 : Int) + 1) rfl (by omega) ?_
    refine v_scr (j := i0 + 1) rfl (by omega) (by omega) hL hx1 ?_
    have h_13 := ir_41_2 hI
    have kn_14 : Hid (c_2 41 2 = c 41 2) := hF_4 41 2 (fun h => absurd h.1 (nn rfl))
    have h_15 : c_2 41 2 = c 41 2 := (hid kn_14)
    refine v_cv rfl rfl rfl rfl (by decide) ⟨⟨rfl, rfl⟩, by decide, rfl⟩ (Nat.le_of_ble_eq_true rfl) (Nat.le_of_ble_eq_true rfl) (s_207 (a1 := x1) hI_3 (show (-2147483648) ≤ x1 ∧ x1 ≤ 2147483647 from by omega) (fun c_16 y_19 hI_17 hF_18 hy_19 h_20 => ?_))
    refine bk_inl ?_
    have h_21 := ir_41_2 hI_17
    refine q_istore rfl (by decide) ?_
    refine q_goto (t := 1844) rfl (by decide) ?_
    refine Wp_ls [(4, vi (i0 : Int)), (3, .ref 67), (2, .ref 41), (1, .ref 0), (0, .ref a_SC)] (lsub_cons rfl (lsub_cons rfl (lsub_cons rfl (lsub_cons rfl (lsub_cons rfl lsub_nil))))) ?_
    have kn_22 : Hid (c_2 1 3 = c 1 3) := hF_4 1 3 (fun h => absurd h.1 (nn rfl))
    have kn_23 : Hid (c_16 1 3 = c 1 3) := (hF_18 1 3 (fun q => q.elim (fun h => absurd h.1 (nn rfl)) (fun q => q.elim (fun h => absurd h (nn rfl)) (fun q => q.elim (fun h => absurd h.1 (nn rfl)) (fun q => q.elim (fun h => absurd h.1 (nn rfl)) (fun q => q.elim (fun h => absurd h.1 (nn rfl)) (fun q => q.elim (fun h => absurd h.1 (nn rfl)) (fun q => q.elim (fun h => absurd h.1 (nn rfl)) (fun q => q.elim (fun h => absurd h.1 (nn rfl)) (fun q => q.elim (fun h => absurd h.1 (nn rfl)) (fun q => q.elim (fun h => absurd h.1 (nn rfl)) (fun q => q.elim (fun h => absurd h (nn rfl)) (fun h => absurd h (nn rfl)))))))))))))).trans (hid kn_22)
    have h_24 : c_16 1 3 = c 1 3 := (hid kn_23)
    have h_25 : c_16 41 2 = c_16 41 2 := rfl
    exact K P Q c_16 1 (by decide) hI_17 ⟨by omega, ub_fr hU (fun j => (hF_18 2 j (fun q => q.elim (fun h => absurd h.1 (nn rfl)) (fun q => q.elim (fun h => absurd h (nn rfl)) (fun q => q.elim (fun h => absurd h.1 (nn rfl)) (fun q => q.elim (fun h => absurd h.1 (nn rfl)) (fun q => q.elim (fun h => absurd h.1 (nn rfl)) (fun q => q.elim (fun h => absurd h.1 (nn rfl)) (fun q => q.elim (fun h => absurd h.1 (nn rfl)) (fun q => q.elim (fun h => absurd h.1 (nn rfl)) (fun q => q.elim (fun h => absurd h.1 (nn rfl)) (fun q => q.elim (fun h => absurd h.1 (nn rfl)) (fun q => q.elim (fun h => absurd h (nn rfl)) (fun h => absurd h (nn rfl)))))))))))))).trans (hF_4 2 j (fun h => absurd h.1 (nn rfl)))) (fun j => (hF_18 43 j (fun q => q.elim (fun h => absurd h.1 (nn rfl)) (fun q => q.elim (fun h => absurd h (nn rfl)) (fun q => q.elim (fun h => absurd h.1 (nn rfl)) (fun q => q.elim (fun h => absurd h.1 (nn rfl)) (fun q => q.elim (fun h => absurd h.1 (nn rfl)) (fun q => q.elim (fun h => absurd h.1 (nn rfl)) (fun q => q.elim (fun h => absurd h.1 (nn rfl)) (fun q => q.elim (fun h => absurd h.1 (nn rfl)) (fun q => q.elim (fun h => absurd h.1 (nn rfl)) (fun q => q.elim (fun h => absurd h.1 (nn rfl)) (fun q => q.elim (fun h => absurd h (nn rfl)) (fun h => absurd h (nn rfl)))))))))))))).trans (hF_4 43 j (fun h => absurd h.1 (nn rfl))))⟩
  refine bk_inl ?_
  have h_26 := ir_1_3 hI_8
  refine v_i2l rfl (by omega) ?_
  refine v_ls rfl rfl (by decide) (by decide) (by decide) ?_
  refine q_goto (t := 15) rfl (by decide) ?_
  refine q_iconst rfl ?_
  refine q_iret rfl rfl ?_
  refine bk_inl ?_
  refine q_istore rfl (by decide) ?_
  refine q_aload_n rfl rfl ?_
  refine q_aload_n rfl rfl ?_
  refine q_iload rfl rfl ?_
  refine q_iconst rfl ?_
  refine v_iadd (v := (i0 : Int) + 1) rfl (by omega) ?_
  refine v_scr (j := i0 + 1) rfl (by omega) (by omega) hL hx1 ?_
  have hI_27 := iw_lx (a := 67) (j := 0) (v := y_10) hI_8 (by omega)
  have h_28 := ir_41_2 hI
  have kn_29 : Hid (c_7 41 2 = c 41 2) := hF_9 41 2 (fun q => q.elim (fun h => absurd h.1 (nn rfl)) (fun q => q.elim (fun h => absurd h.1 (nn rfl)) (fun q => q.elim (fun h => absurd h.1 (nn rfl)) (fun q => q.elim (fun h => absurd h.1 (nn rfl)) (fun q => q.elim (fun h => absurd h.1 (nn rfl)) (fun q => q.elim (fun h => absurd h.1 (nn rfl)) (fun q => q.elim (fun h => absurd h.1 (pn0 hP rfl)) (fun q => q.elim (fun h => absurd h (pn hP rfl rfl)) (fun h => absurd h (pn hP rfl rfl))))))))))
  have h_30 : (up c_7 67 0 y_10) 41 2 = c 41 2 := ((up_c (nn rfl)).trans (hid kn_29))
  refine v_cv rfl rfl rfl rfl (by decide) ⟨⟨rfl, rfl⟩, by decide, rfl⟩ (Nat.le_of_ble_eq_true rfl) (Nat.le_of_ble_eq_true rfl) (s_207 (a1 := x1) hI_27 (show (-2147483648) ≤ x1 ∧ x1 ≤ 2147483647 from by omega) (fun c_31 y_34 hI_32 hF_33 hy_34 h_35 => ?_))
  refine bk_inl ?_
  have h_36 := ir_41_2 hI_32
  refine q_istore rfl (by decide) ?_
  refine q_goto (t := 1844) rfl (by decide) ?_
  refine Wp_ls [(4, vi (i0 : Int)), (3, .ref 67), (2, .ref 41), (1, .ref 0), (0, .ref a_SC)] (lsub_cons rfl (lsub_cons rfl (lsub_cons rfl (lsub_cons rfl (lsub_cons rfl lsub_nil))))) ?_
  have kn_37 : Hid (c_31 1 3 = c_7 1 3) := (hF_33 1 3 (fun q => q.elim (fun h => absurd h.1 (nn rfl)) (fun q => q.elim (fun h => absurd h (nn rfl)) (fun q => q.elim (fun h => absurd h.1 (nn rfl)) (fun q => q.elim (fun h => absurd h.1 (nn rfl)) (fun q => q.elim (fun h => absurd h.1 (nn rfl)) (fun q => q.elim (fun h => absurd h.1 (nn rfl)) (fun q => q.elim (fun h => absurd h.1 (nn rfl)) (fun q => q.elim (fun h => absurd h.1 (nn rfl)) (fun q => q.elim (fun h => absurd h.1 (nn rfl)) (fun q => q.elim (fun h => absurd h.1 (nn rfl)) (fun q => q.elim (fun h => absurd h (nn rfl)) (fun h => absurd h (nn rfl)))))))))))))).trans (up_c (nn rfl))
  have h_38 : c_31 1 3 = c_7 1 3 := (hid kn_37)
  have h_39 : c_31 41 2 = c_31 41 2 := rfl
  exact K P Q c_31 0 (by decide) hI_32 ⟨by omega, ub_fr hU (fun j => (hF_33 2 j (fun q => q.elim (fun h => absurd h.1 (nn rfl)) (fun q => q.elim (fun h => absurd h (nn rfl)) (fun q => q.elim (fun h => absurd h.1 (nn rfl)) (fun q => q.elim (fun h => absurd h.1 (nn rfl)) (fun q => q.elim (fun h => absurd h.1 (nn rfl)) (fun q => q.elim (fun h => absurd h.1 (nn rfl)) (fun q => q.elim (fun h => absurd h.1 (nn rfl)) (fun q => q.elim (fun h => absurd h.1 (nn rfl)) (fun q => q.elim (fun h => absurd h.1 (nn rfl)) (fun q => q.elim (fun h => absurd h.1 (nn rfl)) (fun q => q.elim (fun h => absurd h (nn rfl)) (fun h => absurd h (nn rfl)))))))))))))).trans ((up_c (nn rfl)).trans (hF_9 2 j (fun q => q.elim (fun h => absurd h.1 (nn rfl)) (fun q => q.elim (fun h => absurd h.1 (nn rfl)) (fun q => q.elim (fun h => absurd h.1 (nn rfl)) (fun q => q.elim (fun h => absurd h.1 (nn rfl)) (fun q => q.elim (fun h => absurd h.1 (nn rfl)) (fun q => q.elim (fun h => absurd h.1 (nn rfl)) (fun q => q.elim (fun h => absurd h.1 (pn0 hP rfl)) (fun q => q.elim (fun h => absurd h (pn hP rfl rfl)) (fun h => absurd h (pn hP rfl rfl))))))))))))) (fun j => (hF_33 43 j (fun q => q.elim (fun h => absurd h.1 (nn rfl)) (fun q => q.elim (fun h => absurd h (nn rfl)) (fun q => q.elim (fun h => absurd h.1 (nn rfl)) (fun q => q.elim (fun h => absurd h.1 (nn rfl)) (fun q => q.elim (fun h => absurd h.1 (nn rfl)) (fun q => q.elim (fun h => absurd h.1 (nn rfl)) (fun q => q.elim (fun h => absurd h.1 (nn rfl)) (fun q => q.elim (fun h => absurd h.1 (nn rfl)) (fun q => q.elim (fun h => absurd h.1 (nn rfl)) (fun q => q.elim (fun h => absurd h.1 (nn rfl)) (fun q => q.elim (fun h => absurd h (nn rfl)) (fun h => absurd h (nn rfl)))))))))))))).trans ((up_c (nn rfl)).trans (hF_9 43 j (fun q => q.elim (fun h => absurd h.1 (nn rfl)) (fun q => q.elim (fun h => absurd h.1 (nn rfl)) (fun q => q.elim (fun h => absurd h.1 (nn rfl)) (fun q => q.elim (fun h => absurd h.1 (nn rfl)) (fun q => q.elim (fun h => absurd h.1 (nn rfl)) (fun q => q.elim (fun h => absurd h.1 (nn rfl)) (fun q => q.elim (fun h => absurd h.1 (pn0 hP rfl)) (fun q => q.elim (fun h => absurd h (pn hP rfl rfl)) (fun h => absurd h (pn hP rfl rfl)))))))))))))⟩

set_option maxRecDepth 100000 in
set_option maxHeartbeats 4000000 in
theorem o_6 {xs : Nat → Int32} {L i0 d nc ns P Q : Nat} {c : ME} {Z : AR → Prop} (hi : i0 + 8 ≤ L) (hL : L ≤ 100000) (hI : Iv 0 (-1) P Q c) (hR : Rq P c) (K : ∀ (P2 Q2 : Nat) (c2 : ME) (e : Nat), e ≤ 1 → Iv 0 (-1) P2 Q2 c2 → (Rq P2 c2) → Wp (a_scr L xs) (d + 90) 296 1844 [(4, vi (i0 : Int)), (3, .ref 67), (2, .ref 41), (1, .ref 0), (0, .ref a_SC)] [] (Wd P2 Q2 P2 P2 c2) (nc + e) (ns + 6 * e) Z) : Wp (a_scr L xs) (d + 90) 296 469 [(4, vi (i0 : Int)), (3, .ref 67), (2, .ref 41), (1, .ref 0), (0, .ref a_SC)] [] (Wd P Q P P c) nc ns Z := by
  obtain ⟨x1, hx1⟩ : ∃ z, (xs (i0 + 1)).toInt = z := ⟨_, rfl⟩
  have x1r := c_rng (xs (i0 + 1))
  rw [hx1] at x1r
  obtain ⟨x2, hx2⟩ : ∃ z, (xs (i0 + 2)).toInt = z := ⟨_, rfl⟩
  have x2r := c_rng (xs (i0 + 2))
  rw [hx2] at x2r
  obtain ⟨x3, hx3⟩ : ∃ z, (xs (i0 + 3)).toInt = z := ⟨_, rfl⟩
  have x3r := c_rng (xs (i0 + 3))
  rw [hx3] at x3r
  obtain ⟨x4, hx4⟩ : ∃ z, (xs (i0 + 4)).toInt = z := ⟨_, rfl⟩
  have x4r := c_rng (xs (i0 + 4))
  rw [hx4] at x4r
  obtain ⟨x5, hx5⟩ : ∃ z, (xs (i0 + 5)).toInt = z := ⟨_, rfl⟩
  have x5r := c_rng (xs (i0 + 5))
  rw [hx5] at x5r
  obtain ⟨x6, hx6⟩ : ∃ z, (xs (i0 + 6)).toInt = z := ⟨_, rfl⟩
  have x6r := c_rng (xs (i0 + 6))
  rw [hx6] at x6r
  obtain ⟨x7, hx7⟩ : ∃ z, (xs (i0 + 7)).toInt = z := ⟨_, rfl⟩
  have x7r := c_rng (xs (i0 + 7))
  rw [hx7] at x7r
  have hT := rl_t hR
  have hU := rl_u hR
  have hP := iv_P hI
  have hQ := iv_Q hI
  refine q_aload_n rfl rfl ?_
  refine v_cv rfl rfl rfl rfl (by decide) ⟨⟨rfl, rfl⟩, by decide, rfl⟩ (Nat.le_of_ble_eq_true rfl) (Nat.le_of_ble_eq_true rfl) (s_89 hI (fun y_1 hy_1 => ?_))
  refine bk_inl ?_
  refine q_pop rfl rfl ?_
  refine q_aload_n rfl rfl ?_
  refine v_cv rfl rfl rfl rfl (by decide) ⟨⟨rfl, rfl⟩, by decide, rfl⟩ (Nat.le_of_ble_eq_true rfl) (Nat.le_of_ble_eq_true rfl) (s_165 hI (fun c_2 y_5 hI_3 hF_4 hy_5 => ?_))
  refine bk_inl ?_
  refine q_pop rfl rfl ?_
  refine q_goto (t := 1844) rfl (by decide) ?_
  refine Wp_ls [(4, vi (i0 : Int)), (3, .ref 67), (2, .ref 41), (1, .ref 0), (0, .ref a_SC)] (lsub_cons rfl (lsub_cons rfl (lsub_cons rfl (lsub_cons rfl (lsub_cons rfl lsub_nil))))) ?_
  have h_6 := ir_1_3 hI
  have kn_7 : Hid (c_2 1 3 = c 1 3) := hF_4 1 3 (fun h => absurd h.1 (nn rfl))
  have h_8 : c_2 1 3 = c 1 3 := (hid kn_7)
  have h_9 := ir_41_2 hI
  have kn_10 : Hid (c_2 41 2 = c 41 2) := hF_4 41 2 (fun h => absurd h.2 (ni rfl))
  have h_11 : c_2 41 2 = c 41 2 := (hid kn_10)
  exact K P Q c_2 0 (by decide) hI_3 ⟨by omega, ub_fr hU (fun j => hF_4 2 j (fun h => absurd h.1 (nn rfl))) (fun j => hF_4 43 j (fun h => absurd h.1 (nn rfl)))⟩

set_option maxRecDepth 100000 in
set_option maxHeartbeats 4000000 in
theorem o_7 {xs : Nat → Int32} {L i0 d nc ns P Q : Nat} {c : ME} {Z : AR → Prop} (hi : i0 + 8 ≤ L) (hL : L ≤ 100000) (hI : Iv 0 (-1) P Q c) (hR : Rq P c) (K : ∀ (P2 Q2 : Nat) (c2 : ME) (e : Nat), e ≤ 1 → Iv 0 (-1) P2 Q2 c2 → (Rq P2 c2) → Wp (a_scr L xs) (d + 90) 296 1844 [(4, vi (i0 : Int)), (3, .ref 67), (2, .ref 41), (1, .ref 0), (0, .ref a_SC)] [] (Wd P2 Q2 P2 P2 c2) (nc + e) (ns + 6 * e) Z) : Wp (a_scr L xs) (d + 90) 296 482 [(4, vi (i0 : Int)), (3, .ref 67), (2, .ref 41), (1, .ref 0), (0, .ref a_SC)] [] (Wd P Q P P c) nc ns Z := by
  obtain ⟨x1, hx1⟩ : ∃ z, (xs (i0 + 1)).toInt = z := ⟨_, rfl⟩
  have x1r := c_rng (xs (i0 + 1))
  rw [hx1] at x1r
  obtain ⟨x2, hx2⟩ : ∃ z, (xs (i0 + 2)).toInt = z := ⟨_, rfl⟩
  have x2r := c_rng (xs (i0 + 2))
  rw [hx2] at x2r
  obtain ⟨x3, hx3⟩ : ∃ z, (xs (i0 + 3)).toInt = z := ⟨_, rfl⟩
  have x3r := c_rng (xs (i0 + 3))
  rw [hx3] at x3r
  obtain ⟨x4, hx4⟩ : ∃ z, (xs (i0 + 4)).toInt = z := ⟨_, rfl⟩
  have x4r := c_rng (xs (i0 + 4))
  rw [hx4] at x4r
  obtain ⟨x5, hx5⟩ : ∃ z, (xs (i0 + 5)).toInt = z := ⟨_, rfl⟩
  have x5r := c_rng (xs (i0 + 5))
  rw [hx5] at x5r
  obtain ⟨x6, hx6⟩ : ∃ z, (xs (i0 + 6)).toInt = z := ⟨_, rfl⟩
  have x6r := c_rng (xs (i0 + 6))
  rw [hx6] at x6r
  obtain ⟨x7, hx7⟩ : ∃ z, (xs (i0 + 7)).toInt = z := ⟨_, rfl⟩
  have x7r := c_rng (xs (i0 + 7))
  rw [hx7] at x7r
  have hT := rl_t hR
  have hU := rl_u hR
  have hP := iv_P hI
  have hQ := iv_Q hI
  refine q_aload_n rfl rfl ?_
  have h_1 := ir_3_3 hI
  refine v_cv rfl rfl rfl rfl (by decide) ⟨⟨rfl, rfl⟩, by decide, rfl⟩ (Nat.le_of_ble_eq_true rfl) (Nat.le_of_ble_eq_true rfl) (s_139 hI (fun c_2 y_5 hI_3 hF_4 hy_5 h_6 => ?_))
  refine bk_inl ?_
  have h_7 := ir_3_3 hI_3
  refine q_pop rfl rfl ?_
  refine q_aload_n rfl rfl ?_
  have h_8 := ir_41_35 hI
  have kn_9 : Hid (c_2 41 35 = c 41 35) := hF_4 41 35 (fun q => q.elim (fun h => absurd h.1 (nn rfl)) (fun q => q.elim (fun h => absurd h.1 (nn rfl)) (fun h => absurd h (nn rfl))))
  have h_10 : c_2 41 35 = c 41 35 := (hid kn_9)
  refine v_cv rfl rfl rfl rfl (by decide) ⟨⟨rfl, rfl⟩, by decide, rfl⟩ (Nat.le_of_ble_eq_true rfl) (Nat.le_of_ble_eq_true rfl) (s_208 hI_3 (fun c_11 y_14 hI_12 hF_13 hy_14 h_15 => ?_))
  refine bk_inl ?_
  have h_16 := ir_41_35 hI_12
  refine q_pop rfl rfl ?_
  refine q_goto (t := 1844) rfl (by decide) ?_
  refine Wp_ls [(4, vi (i0 : Int)), (3, .ref 67), (2, .ref 41), (1, .ref 0), (0, .ref a_SC)] (lsub_cons rfl (lsub_cons rfl (lsub_cons rfl (lsub_cons rfl (lsub_cons rfl lsub_nil))))) ?_
  have h_17 := ir_1_3 hI
  have kn_18 : Hid (c_2 1 3 = c 1 3) := hF_4 1 3 (fun q => q.elim (fun h => absurd h.1 (nn rfl)) (fun q => q.elim (fun h => absurd h.1 (nn rfl)) (fun h => absurd h (nn rfl))))
  have kn_19 : Hid (c_11 1 3 = c 1 3) := (hF_13 1 3 (fun q => q.elim (fun h => absurd h.1 (nn rfl)) (fun q => q.elim (fun h => absurd h.1 (nn rfl)) (fun q => q.elim (fun h => absurd h.1 (nn rfl)) (fun h => absurd h (nn rfl)))))).trans (hid kn_18)
  have h_20 : c_11 1 3 = c 1 3 := (hid kn_19)
  have h_21 := ir_41_2 hI
  have kn_22 : Hid (c_2 41 2 = c 41 2) := hF_4 41 2 (fun q => q.elim (fun h => absurd h.1 (nn rfl)) (fun q => q.elim (fun h => absurd h.1 (nn rfl)) (fun h => absurd h (nn rfl))))
  have kn_23 : Hid (c_11 41 2 = c 41 2) := (hF_13 41 2 (fun q => q.elim (fun h => absurd h.2 (ni rfl)) (fun q => q.elim (fun h => absurd h.2 (ni rfl)) (fun q => q.elim (fun h => absurd h.2 (ni rfl)) (fun h => absurd h (nn rfl)))))).trans (hid kn_22)
  have h_24 : c_11 41 2 = c 41 2 := (hid kn_23)
  exact K P Q c_11 0 (by decide) hI_12 ⟨by omega, ub_fr hU (fun j => (hF_13 2 j (fun q => q.elim (fun h => absurd h.1 (nn rfl)) (fun q => q.elim (fun h => absurd h.1 (nn rfl)) (fun q => q.elim (fun h => absurd h.1 (nn rfl)) (fun h => absurd h (nn rfl)))))).trans (hF_4 2 j (fun q => q.elim (fun h => absurd h.1 (nn rfl)) (fun q => q.elim (fun h => absurd h.1 (nn rfl)) (fun h => absurd h (nn rfl)))))) (fun j => (hF_13 43 j (fun q => q.elim (fun h => absurd h.1 (nn rfl)) (fun q => q.elim (fun h => absurd h.1 (nn rfl)) (fun q => q.elim (fun h => absurd h.1 (nn rfl)) (fun h => absurd h (nn rfl)))))).trans (hF_4 43 j (fun q => q.elim (fun h => absurd h.1 (nn rfl)) (fun q => q.elim (fun h => absurd h.1 (nn rfl)) (fun h => absurd h (nn rfl))))))⟩

set_option maxRecDepth 100000 in
set_option maxHeartbeats 4000000 in
theorem o_8 {xs : Nat → Int32} {L i0 d nc ns P Q : Nat} {c : ME} {Z : AR → Prop} (hi : i0 + 8 ≤ L) (hL : L ≤ 100000) (hI : Iv 0 (-1) P Q c) (hR : Rq P c) (K : ∀ (P2 Q2 : Nat) (c2 : ME) (e : Nat), e ≤ 1 → Iv 0 (-1) P2 Q2 c2 → (Rq P2 c2) → Wp (a_scr L xs) (d + 90) 296 1844 [(4, vi (i0 : Int)), (3, .ref 67), (2, .ref 41), (1, .ref 0), (0, .ref a_SC)] [] (Wd P2 Q2 P2 P2 c2) (nc + e) (ns + 6 * e) Z) : Wp (a_scr L xs) (d + 90) 296 495 [(4, vi (i0 : Int)), (3, .ref 67), (2, .ref 41), (1, .ref 0), (0, .ref a_SC)] [] (Wd P Q P P c) nc ns Z := by
  obtain ⟨x1, hx1⟩ : ∃ z, (xs (i0 + 1)).toInt = z := ⟨_, rfl⟩
  have x1r := c_rng (xs (i0 + 1))
  rw [hx1] at x1r
  obtain ⟨x2, hx2⟩ : ∃ z, (xs (i0 + 2)).toInt = z := ⟨_, rfl⟩
  have x2r := c_rng (xs (i0 + 2))
  rw [hx2] at x2r
  obtain ⟨x3, hx3⟩ : ∃ z, (xs (i0 + 3)).toInt = z := ⟨_, rfl⟩
  have x3r := c_rng (xs (i0 + 3))
  rw [hx3] at x3r
  obtain ⟨x4, hx4⟩ : ∃ z, (xs (i0 + 4)).toInt = z := ⟨_, rfl⟩
  have x4r := c_rng (xs (i0 + 4))
  rw [hx4] at x4r
  obtain ⟨x5, hx5⟩ : ∃ z, (xs (i0 + 5)).toInt = z := ⟨_, rfl⟩
  have x5r := c_rng (xs (i0 + 5))
  rw [hx5] at x5r
  obtain ⟨x6, hx6⟩ : ∃ z, (xs (i0 + 6)).toInt = z := ⟨_, rfl⟩
  have x6r := c_rng (xs (i0 + 6))
  rw [hx6] at x6r
  obtain ⟨x7, hx7⟩ : ∃ z, (xs (i0 + 7)).toInt = z := ⟨_, rfl⟩
  have x7r := c_rng (xs (i0 + 7))
  rw [hx7] at x7r
  have hT := rl_t hR
  have hU := rl_u hR
  have hP := iv_P hI
  have hQ := iv_Q hI
  refine q_aload_n rfl rfl ?_
  refine q_aload_n rfl rfl ?_
  refine q_iload rfl rfl ?_
  refine q_iconst rfl ?_
  refine v_iadd (v := (i0 : Int) + 1) rfl (by omega) ?_
  refine v_scr (j := i0 + 1) rfl (by omega) (by omega) hL hx1 ?_
  refine q_aload_n rfl rfl ?_
  refine q_call rfl rfl rfl rfl ?_
  refine q_aload_n rfl rfl ?_
  refine q_iconst rfl ?_
  refine q_aload_n rfl rfl ?_
  refine q_iload_n rfl rfl ?_
  refine v_cv rfl rfl rfl rfl (by decide) ⟨⟨rfl, rfl⟩, by decide, rfl⟩ (Nat.le_of_ble_eq_true rfl) (Nat.le_of_ble_eq_true rfl) (s_90 (a1 := x1) hI (show (-2147483648) ≤ x1 ∧ x1 ≤ 2147483647 from by omega) (fun c_1 hI_2 hF_3 => ?_) (fun c_4 y_7 hI_5 hF_6 hy_7 => ?_))
  · skip
    refine bk_thr (z := Int32.ofInt 1) rfl ⟨_, _, rfl⟩ rfl ?_
    refine bk_inl ?_
    refine q_istore rfl (by decide) ?_
    refine q_aload_n rfl rfl ?_
    refine q_aload_n rfl rfl ?_
    refine q_iload rfl rfl ?_
    refine q_iconst rfl ?_
    refine v_iadd (v := (i0 : Int) + 1) rfl (by omega) ?_
    refine v_scr (j := i0 + 1) rfl (by omega) (by omega) hL hx1 ?_
    refine v_cv rfl rfl rfl rfl (by decide) ⟨⟨rfl, rfl⟩, by decide, rfl⟩ (Nat.le_of_ble_eq_true rfl) (Nat.le_of_ble_eq_true rfl) (s_211 (a1 := x1) hI_2 (show (-2147483648) ≤ x1 ∧ x1 ≤ 2147483647 from by omega) (fun c_8 y_11 hI_9 hF_10 hy_11 => ?_))
    refine bk_inl ?_
    refine q_istore rfl (by decide) ?_
    refine q_goto (t := 1844) rfl (by decide) ?_
    refine Wp_ls [(4, vi (i0 : Int)), (3, .ref 67), (2, .ref 41), (1, .ref 0), (0, .ref a_SC)] (lsub_cons rfl (lsub_cons rfl (lsub_cons rfl (lsub_cons rfl (lsub_cons rfl lsub_nil))))) ?_
    have h_12 := ir_1_3 hI
    have kn_13 : Hid (c_1 1 3 = c 1 3) := hF_3 1 3 (fun h => absurd h.1 (nn rfl))
    have kn_14 : Hid (c_8 1 3 = c 1 3) := (hF_10 1 3 (fun q => q.elim (fun h => absurd h.1 (nn rfl)) (fun q => q.elim (fun h => absurd h (nn rfl)) (fun h => absurd h (nn rfl))))).trans (hid kn_13)
    have h_15 : c_8 1 3 = c 1 3 := (hid kn_14)
    have h_16 := ir_41_2 hI
    have kn_17 : Hid (c_1 41 2 = c 41 2) := hF_3 41 2 (fun h => absurd h.1 (nn rfl))
    have kn_18 : Hid (c_8 41 2 = c 41 2) := (hF_10 41 2 (fun q => q.elim (fun h => absurd h.2 (ni rfl)) (fun q => q.elim (fun h => absurd h (nn rfl)) (fun h => absurd h (nn rfl))))).trans (hid kn_17)
    have h_19 : c_8 41 2 = c 41 2 := (hid kn_18)
    exact K P Q c_8 1 (by decide) hI_9 ⟨by omega, ub_fr hU (fun j => (hF_10 2 j (fun q => q.elim (fun h => absurd h.1 (nn rfl)) (fun q => q.elim (fun h => absurd h (nn rfl)) (fun h => absurd h (nn rfl))))).trans (hF_3 2 j (fun h => absurd h.1 (nn rfl)))) (fun j => (hF_10 43 j (fun q => q.elim (fun h => absurd h.1 (nn rfl)) (fun q => q.elim (fun h => absurd h (nn rfl)) (fun h => absurd h (nn rfl))))).trans (hF_3 43 j (fun h => absurd h.1 (nn rfl))))⟩
  refine bk_inl ?_
  refine v_i2l rfl (by omega) ?_
  refine v_ls rfl rfl (by decide) (by decide) (by decide) ?_
  refine q_goto (t := 15) rfl (by decide) ?_
  refine q_iconst rfl ?_
  refine q_iret rfl rfl ?_
  refine bk_inl ?_
  refine q_istore rfl (by decide) ?_
  refine q_aload_n rfl rfl ?_
  refine q_aload_n rfl rfl ?_
  refine q_iload rfl rfl ?_
  refine q_iconst rfl ?_
  refine v_iadd (v := (i0 : Int) + 1) rfl (by omega) ?_
  refine v_scr (j := i0 + 1) rfl (by omega) (by omega) hL hx1 ?_
  have hI_20 := iw_lx (a := 67) (j := 0) (v := y_7) hI_5 (by omega)
  refine v_cv rfl rfl rfl rfl (by decide) ⟨⟨rfl, rfl⟩, by decide, rfl⟩ (Nat.le_of_ble_eq_true rfl) (Nat.le_of_ble_eq_true rfl) (s_211 (a1 := x1) hI_20 (show (-2147483648) ≤ x1 ∧ x1 ≤ 2147483647 from by omega) (fun c_21 y_24 hI_22 hF_23 hy_24 => ?_))
  refine bk_inl ?_
  refine q_istore rfl (by decide) ?_
  refine q_goto (t := 1844) rfl (by decide) ?_
  refine Wp_ls [(4, vi (i0 : Int)), (3, .ref 67), (2, .ref 41), (1, .ref 0), (0, .ref a_SC)] (lsub_cons rfl (lsub_cons rfl (lsub_cons rfl (lsub_cons rfl (lsub_cons rfl lsub_nil))))) ?_
  have h_25 := ir_1_3 hI
  have kn_26 : Hid (c_4 1 3 = c 1 3) := hF_6 1 3 (fun h => absurd h.1 (nn rfl))
  have kn_27 : Hid (c_21 1 3 = c 1 3) := (hF_23 1 3 (fun q => q.elim (fun h => absurd h.1 (nn rfl)) (fun q => q.elim (fun h => absurd h (nn rfl)) (fun h => absurd h (nn rfl))))).trans ((up_c (nn rfl)).trans (hid kn_26))
  have h_28 : c_21 1 3 = c 1 3 := (hid kn_27)
  have h_29 := ir_41_2 hI
  have kn_30 : Hid (c_4 41 2 = c 41 2) := hF_6 41 2 (fun h => absurd h.1 (nn rfl))
  have kn_31 : Hid (c_21 41 2 = c 41 2) := (hF_23 41 2 (fun q => q.elim (fun h => absurd h.2 (ni rfl)) (fun q => q.elim (fun h => absurd h (nn rfl)) (fun h => absurd h (nn rfl))))).trans ((up_c (nn rfl)).trans (hid kn_30))
  have h_32 : c_21 41 2 = c 41 2 := (hid kn_31)
  exact K P Q c_21 0 (by decide) hI_22 ⟨by omega, ub_fr hU (fun j => (hF_23 2 j (fun q => q.elim (fun h => absurd h.1 (nn rfl)) (fun q => q.elim (fun h => absurd h (nn rfl)) (fun h => absurd h (nn rfl))))).trans ((up_c (nn rfl)).trans (hF_6 2 j (fun h => absurd h.1 (nn rfl))))) (fun j => (hF_23 43 j (fun q => q.elim (fun h => absurd h.1 (nn rfl)) (fun q => q.elim (fun h => absurd h (nn rfl)) (fun h => absurd h (nn rfl))))).trans ((up_c (nn rfl)).trans (hF_6 43 j (fun h => absurd h.1 (nn rfl)))))⟩

set_option maxRecDepth 100000 in
set_option maxHeartbeats 4000000 in
theorem o_9 {xs : Nat → Int32} {L i0 d nc ns P Q : Nat} {c : ME} {Z : AR → Prop} (hi : i0 + 8 ≤ L) (hL : L ≤ 100000) (hI : Iv 0 (-1) P Q c) (hR : Rq P c) (K : ∀ (P2 Q2 : Nat) (c2 : ME) (e : Nat), e ≤ 1 → Iv 0 (-1) P2 Q2 c2 → (Rq P2 c2) → Wp (a_scr L xs) (d + 90) 296 1844 [(4, vi (i0 : Int)), (3, .ref 67), (2, .ref 41), (1, .ref 0), (0, .ref a_SC)] [] (Wd P2 Q2 P2 P2 c2) (nc + e) (ns + 6 * e) Z) : Wp (a_scr L xs) (d + 90) 296 523 [(4, vi (i0 : Int)), (3, .ref 67), (2, .ref 41), (1, .ref 0), (0, .ref a_SC)] [] (Wd P Q P P c) nc ns Z := by
  obtain ⟨x1, hx1⟩ : ∃ z, (xs (i0 + 1)).toInt = z := ⟨_, rfl⟩
  have x1r := c_rng (xs (i0 + 1))
  rw [hx1] at x1r
  obtain ⟨x2, hx2⟩ : ∃ z, (xs (i0 + 2)).toInt = z := ⟨_, rfl⟩
  have x2r := c_rng (xs (i0 + 2))
  rw [hx2] at x2r
  obtain ⟨x3, hx3⟩ : ∃ z, (xs (i0 + 3)).toInt = z := ⟨_, rfl⟩
  have x3r := c_rng (xs (i0 + 3))
  rw [hx3] at x3r
  obtain ⟨x4, hx4⟩ : ∃ z, (xs (i0 + 4)).toInt = z := ⟨_, rfl⟩
  have x4r := c_rng (xs (i0 + 4))
  rw [hx4] at x4r
  obtain ⟨x5, hx5⟩ : ∃ z, (xs (i0 + 5)).toInt = z := ⟨_, rfl⟩
  have x5r := c_rng (xs (i0 + 5))
  rw [hx5] at x5r
  obtain ⟨x6, hx6⟩ : ∃ z, (xs (i0 + 6)).toInt = z := ⟨_, rfl⟩
  have x6r := c_rng (xs (i0 + 6))
  rw [hx6] at x6r
  obtain ⟨x7, hx7⟩ : ∃ z, (xs (i0 + 7)).toInt = z := ⟨_, rfl⟩
  have x7r := c_rng (xs (i0 + 7))
  rw [hx7] at x7r
  have hT := rl_t hR
  have hU := rl_u hR
  have hP := iv_P hI
  have hQ := iv_Q hI
  refine q_aload_n rfl rfl ?_
  refine q_aload_n rfl rfl ?_
  refine q_iload rfl rfl ?_
  refine q_iconst rfl ?_
  refine v_iadd (v := (i0 : Int) + 1) rfl (by omega) ?_
  refine v_scr (j := i0 + 1) rfl (by omega) (by omega) hL hx1 ?_
  refine q_aload_n rfl rfl ?_
  refine q_iload rfl rfl ?_
  refine q_iconst rfl ?_
  refine v_iadd (v := (i0 : Int) + 2) rfl (by omega) ?_
  refine v_scr (j := i0 + 2) rfl (by omega) (by omega) hL hx2 ?_
  refine q_aload_n rfl rfl ?_
  refine q_call rfl rfl rfl rfl ?_
  refine q_aload_n rfl rfl ?_
  refine q_iconst rfl ?_
  refine q_aload_n rfl rfl ?_
  refine q_iload_n rfl rfl ?_
  refine q_iload_n rfl rfl ?_
  refine v_cv rfl rfl rfl rfl (by decide) ⟨⟨rfl, rfl⟩, by decide, rfl⟩ (Nat.le_of_ble_eq_true rfl) (Nat.le_of_ble_eq_true rfl) (s_93 (a1 := x1) (a2 := x2) hI (show (-2147483648) ≤ x1 ∧ x1 ≤ 2147483647 from by omega) (show (-2147483648) ≤ x2 ∧ x2 ≤ 2147483647 from by omega) (fun c_1 hI_2 hF_3 => ?_) (fun c_4 hI_5 hF_6 => ?_) (fun c_7 y_10 hI_8 hF_9 hy_10 => ?_))
  · skip
    refine bk_thr (z := Int32.ofInt 1) rfl ⟨_, _, rfl⟩ rfl ?_
    refine bk_inl ?_
    refine q_istore rfl (by decide) ?_
    refine q_aload_n rfl rfl ?_
    refine q_aload_n rfl rfl ?_
    refine q_iload rfl rfl ?_
    refine q_iconst rfl ?_
    refine v_iadd (v := (i0 : Int) + 1) rfl (by omega) ?_
    refine v_scr (j := i0 + 1) rfl (by omega) (by omega) hL hx1 ?_
    refine q_aload_n rfl rfl ?_
    refine q_iload rfl rfl ?_
    refine q_iconst rfl ?_
    refine v_iadd (v := (i0 : Int) + 2) rfl (by omega) ?_
    refine v_scr (j := i0 + 2) rfl (by omega) (by omega) hL hx2 ?_
    refine v_cv rfl rfl rfl rfl (by decide) ⟨⟨rfl, rfl⟩, by decide, rfl⟩ (Nat.le_of_ble_eq_true rfl) (Nat.le_of_ble_eq_true rfl) (s_213 (a1 := x1) (a2 := x2) hI_2 (show (-2147483648) ≤ x1 ∧ x1 ≤ 2147483647 from by omega) (show (-2147483648) ≤ x2 ∧ x2 ≤ 2147483647 from by omega) (fun c_11 y_14 hI_12 hF_13 hy_14 => ?_))
    refine bk_inl ?_
    refine q_istore rfl (by decide) ?_
    refine q_goto (t := 1844) rfl (by decide) ?_
    refine Wp_ls [(4, vi (i0 : Int)), (3, .ref 67), (2, .ref 41), (1, .ref 0), (0, .ref a_SC)] (lsub_cons rfl (lsub_cons rfl (lsub_cons rfl (lsub_cons rfl (lsub_cons rfl lsub_nil))))) ?_
    have h_15 := ir_1_3 hI
    have kn_16 : Hid (c_1 1 3 = c 1 3) := hF_3 1 3 (fun q => q.elim (fun h => absurd h.1 (nn rfl)) (fun h => absurd h.1 (nn rfl)))
    have kn_17 : Hid (c_11 1 3 = c 1 3) := (hF_13 1 3 (fun q => q.elim (fun h => absurd h.1 (nn rfl)) (fun q => q.elim (fun h => absurd h (nn rfl)) (fun h => absurd h (nn rfl))))).trans (hid kn_16)
    have h_18 : c_11 1 3 = c 1 3 := (hid kn_17)
    have h_19 := ir_41_2 hI
    have kn_20 : Hid (c_1 41 2 = c 41 2) := hF_3 41 2 (fun q => q.elim (fun h => absurd h.1 (nn rfl)) (fun h => absurd h.1 (nn rfl)))
    have kn_21 : Hid (c_11 41 2 = c 41 2) := (hF_13 41 2 (fun q => q.elim (fun h => absurd h.2 (ni rfl)) (fun q => q.elim (fun h => absurd h (nn rfl)) (fun h => absurd h (nn rfl))))).trans (hid kn_20)
    have h_22 : c_11 41 2 = c 41 2 := (hid kn_21)
    exact K P Q c_11 1 (by decide) hI_12 ⟨by omega, ub_fr hU (fun j => (hF_13 2 j (fun q => q.elim (fun h => absurd h.1 (nn rfl)) (fun q => q.elim (fun h => absurd h (nn rfl)) (fun h => absurd h (nn rfl))))).trans (hF_3 2 j (fun q => q.elim (fun h => absurd h.1 (nn rfl)) (fun h => absurd h.1 (nn rfl))))) (fun j => (hF_13 43 j (fun q => q.elim (fun h => absurd h.1 (nn rfl)) (fun q => q.elim (fun h => absurd h (nn rfl)) (fun h => absurd h (nn rfl))))).trans (hF_3 43 j (fun q => q.elim (fun h => absurd h.1 (nn rfl)) (fun h => absurd h.1 (nn rfl)))))⟩
  · skip
    refine bk_thr (z := Int32.ofInt 2) rfl ⟨_, _, rfl⟩ rfl ?_
    refine bk_inl ?_
    refine q_istore rfl (by decide) ?_
    refine q_aload_n rfl rfl ?_
    refine q_aload_n rfl rfl ?_
    refine q_iload rfl rfl ?_
    refine q_iconst rfl ?_
    refine v_iadd (v := (i0 : Int) + 1) rfl (by omega) ?_
    refine v_scr (j := i0 + 1) rfl (by omega) (by omega) hL hx1 ?_
    refine q_aload_n rfl rfl ?_
    refine q_iload rfl rfl ?_
    refine q_iconst rfl ?_
    refine v_iadd (v := (i0 : Int) + 2) rfl (by omega) ?_
    refine v_scr (j := i0 + 2) rfl (by omega) (by omega) hL hx2 ?_
    refine v_cv rfl rfl rfl rfl (by decide) ⟨⟨rfl, rfl⟩, by decide, rfl⟩ (Nat.le_of_ble_eq_true rfl) (Nat.le_of_ble_eq_true rfl) (s_213 (a1 := x1) (a2 := x2) hI_5 (show (-2147483648) ≤ x1 ∧ x1 ≤ 2147483647 from by omega) (show (-2147483648) ≤ x2 ∧ x2 ≤ 2147483647 from by omega) (fun c_23 y_26 hI_24 hF_25 hy_26 => ?_))
    refine bk_inl ?_
    refine q_istore rfl (by decide) ?_
    refine q_goto (t := 1844) rfl (by decide) ?_
    refine Wp_ls [(4, vi (i0 : Int)), (3, .ref 67), (2, .ref 41), (1, .ref 0), (0, .ref a_SC)] (lsub_cons rfl (lsub_cons rfl (lsub_cons rfl (lsub_cons rfl (lsub_cons rfl lsub_nil))))) ?_
    have h_27 := ir_1_3 hI
    have kn_28 : Hid (c_4 1 3 = c 1 3) := hF_6 1 3 (fun q => q.elim (fun h => absurd h.1 (nn rfl)) (fun h => absurd h.1 (nn rfl)))
    have kn_29 : Hid (c_23 1 3 = c 1 3) := (hF_25 1 3 (fun q => q.elim (fun h => absurd h.1 (nn rfl)) (fun q => q.elim (fun h => absurd h (nn rfl)) (fun h => absurd h (nn rfl))))).trans (hid kn_28)
    have h_30 : c_23 1 3 = c 1 3 := (hid kn_29)
    have h_31 := ir_41_2 hI
    have kn_32 : Hid (c_4 41 2 = c 41 2) := hF_6 41 2 (fun q => q.elim (fun h => absurd h.1 (nn rfl)) (fun h => absurd h.1 (nn rfl)))
    have kn_33 : Hid (c_23 41 2 = c 41 2) := (hF_25 41 2 (fun q => q.elim (fun h => absurd h.2 (ni rfl)) (fun q => q.elim (fun h => absurd h (nn rfl)) (fun h => absurd h (nn rfl))))).trans (hid kn_32)
    have h_34 : c_23 41 2 = c 41 2 := (hid kn_33)
    exact K P Q c_23 1 (by decide) hI_24 ⟨by omega, ub_fr hU (fun j => (hF_25 2 j (fun q => q.elim (fun h => absurd h.1 (nn rfl)) (fun q => q.elim (fun h => absurd h (nn rfl)) (fun h => absurd h (nn rfl))))).trans (hF_6 2 j (fun q => q.elim (fun h => absurd h.1 (nn rfl)) (fun h => absurd h.1 (nn rfl))))) (fun j => (hF_25 43 j (fun q => q.elim (fun h => absurd h.1 (nn rfl)) (fun q => q.elim (fun h => absurd h (nn rfl)) (fun h => absurd h (nn rfl))))).trans (hF_6 43 j (fun q => q.elim (fun h => absurd h.1 (nn rfl)) (fun h => absurd h.1 (nn rfl)))))⟩
  refine bk_inl ?_
  refine v_i2l rfl (by omega) ?_
  refine v_ls rfl rfl (by decide) (by decide) (by decide) ?_
  refine q_goto (t := 21) rfl (by decide) ?_
  refine q_iconst rfl ?_
  refine q_iret rfl rfl ?_
  refine bk_inl ?_
  refine q_istore rfl (by decide) ?_
  refine q_aload_n rfl rfl ?_
  refine q_aload_n rfl rfl ?_
  refine q_iload rfl rfl ?_
  refine q_iconst rfl ?_
  refine v_iadd (v := (i0 : Int) + 1) rfl (by omega) ?_
  refine v_scr (j := i0 + 1) rfl (by omega) (by omega) hL hx1 ?_
  refine q_aload_n rfl rfl ?_
  refine q_iload rfl rfl ?_
  refine q_iconst rfl ?_
  refine v_iadd (v := (i0 : Int) + 2) rfl (by omega) ?_
  refine v_scr (j := i0 + 2) rfl (by omega) (by omega) hL hx2 ?_
  have hI_35 := iw_lx (a := 67) (j := 0) (v := y_10) hI_8 (by omega)
  refine v_cv rfl rfl rfl rfl (by decide) ⟨⟨rfl, rfl⟩, by decide, rfl⟩ (Nat.le_of_ble_eq_true rfl) (Nat.le_of_ble_eq_true rfl) (s_213 (a1 := x1) (a2 := x2) hI_35 (show (-2147483648) ≤ x1 ∧ x1 ≤ 2147483647 from by omega) (show (-2147483648) ≤ x2 ∧ x2 ≤ 2147483647 from by omega) (fun c_36 y_39 hI_37 hF_38 hy_39 => ?_))
  refine bk_inl ?_
  refine q_istore rfl (by decide) ?_
  refine q_goto (t := 1844) rfl (by decide) ?_
  refine Wp_ls [(4, vi (i0 : Int)), (3, .ref 67), (2, .ref 41), (1, .ref 0), (0, .ref a_SC)] (lsub_cons rfl (lsub_cons rfl (lsub_cons rfl (lsub_cons rfl (lsub_cons rfl lsub_nil))))) ?_
  have h_40 := ir_1_3 hI
  have kn_41 : Hid (c_7 1 3 = c 1 3) := hF_9 1 3 (fun q => q.elim (fun h => absurd h.1 (nn rfl)) (fun h => absurd h.1 (nn rfl)))
  have kn_42 : Hid (c_36 1 3 = c 1 3) := (hF_38 1 3 (fun q => q.elim (fun h => absurd h.1 (nn rfl)) (fun q => q.elim (fun h => absurd h (nn rfl)) (fun h => absurd h (nn rfl))))).trans ((up_c (nn rfl)).trans (hid kn_41))
  have h_43 : c_36 1 3 = c 1 3 := (hid kn_42)
  have h_44 := ir_41_2 hI
  have kn_45 : Hid (c_7 41 2 = c 41 2) := hF_9 41 2 (fun q => q.elim (fun h => absurd h.1 (nn rfl)) (fun h => absurd h.1 (nn rfl)))
  have kn_46 : Hid (c_36 41 2 = c 41 2) := (hF_38 41 2 (fun q => q.elim (fun h => absurd h.2 (ni rfl)) (fun q => q.elim (fun h => absurd h (nn rfl)) (fun h => absurd h (nn rfl))))).trans ((up_c (nn rfl)).trans (hid kn_45))
  have h_47 : c_36 41 2 = c 41 2 := (hid kn_46)
  exact K P Q c_36 0 (by decide) hI_37 ⟨by omega, ub_fr hU (fun j => (hF_38 2 j (fun q => q.elim (fun h => absurd h.1 (nn rfl)) (fun q => q.elim (fun h => absurd h (nn rfl)) (fun h => absurd h (nn rfl))))).trans ((up_c (nn rfl)).trans (hF_9 2 j (fun q => q.elim (fun h => absurd h.1 (nn rfl)) (fun h => absurd h.1 (nn rfl)))))) (fun j => (hF_38 43 j (fun q => q.elim (fun h => absurd h.1 (nn rfl)) (fun q => q.elim (fun h => absurd h (nn rfl)) (fun h => absurd h (nn rfl))))).trans ((up_c (nn rfl)).trans (hF_9 43 j (fun q => q.elim (fun h => absurd h.1 (nn rfl)) (fun h => absurd h.1 (nn rfl))))))⟩

set_option maxRecDepth 100000 in
set_option maxHeartbeats 4000000 in
theorem o_10 {xs : Nat → Int32} {L i0 d nc ns P Q : Nat} {c : ME} {Z : AR → Prop} (hi : i0 + 8 ≤ L) (hL : L ≤ 100000) (hI : Iv 0 (-1) P Q c) (hR : Rq P c) (K : ∀ (P2 Q2 : Nat) (c2 : ME) (e : Nat), e ≤ 1 → Iv 0 (-1) P2 Q2 c2 → (Rq P2 c2) → Wp (a_scr L xs) (d + 90) 296 1844 [(4, vi (i0 : Int)), (3, .ref 67), (2, .ref 41), (1, .ref 0), (0, .ref a_SC)] [] (Wd P2 Q2 P2 P2 c2) (nc + e) (ns + 6 * e) Z) : Wp (a_scr L xs) (d + 90) 296 563 [(4, vi (i0 : Int)), (3, .ref 67), (2, .ref 41), (1, .ref 0), (0, .ref a_SC)] [] (Wd P Q P P c) nc ns Z := by
  obtain ⟨x1, hx1⟩ : ∃ z, (xs (i0 + 1)).toInt = z := ⟨_, rfl⟩
  have x1r := c_rng (xs (i0 + 1))
  rw [hx1] at x1r
  obtain ⟨x2, hx2⟩ : ∃ z, (xs (i0 + 2)).toInt = z := ⟨_, rfl⟩
  have x2r := c_rng (xs (i0 + 2))
  rw [hx2] at x2r
  obtain ⟨x3, hx3⟩ : ∃ z, (xs (i0 + 3)).toInt = z := ⟨_, rfl⟩
  have x3r := c_rng (xs (i0 + 3))
  rw [hx3] at x3r
  obtain ⟨x4, hx4⟩ : ∃ z, (xs (i0 + 4)).toInt = z := ⟨_, rfl⟩
  have x4r := c_rng (xs (i0 + 4))
  rw [hx4] at x4r
  obtain ⟨x5, hx5⟩ : ∃ z, (xs (i0 + 5)).toInt = z := ⟨_, rfl⟩
  have x5r := c_rng (xs (i0 + 5))
  rw [hx5] at x5r
  obtain ⟨x6, hx6⟩ : ∃ z, (xs (i0 + 6)).toInt = z := ⟨_, rfl⟩
  have x6r := c_rng (xs (i0 + 6))
  rw [hx6] at x6r
  obtain ⟨x7, hx7⟩ : ∃ z, (xs (i0 + 7)).toInt = z := ⟨_, rfl⟩
  have x7r := c_rng (xs (i0 + 7))
  rw [hx7] at x7r
  have hT := rl_t hR
  have hU := rl_u hR
  have hP := iv_P hI
  have hQ := iv_Q hI
  refine q_aload_n rfl rfl ?_
  refine q_aload_n rfl rfl ?_
  refine q_iload rfl rfl ?_
  refine q_iconst rfl ?_
  refine v_iadd (v := (i0 : Int) + 1) rfl (by omega) ?_
  refine v_scr (j := i0 + 1) rfl (by omega) (by omega) hL hx1 ?_
  refine q_aload_n rfl rfl ?_
  refine q_iload rfl rfl ?_
  refine q_iconst rfl ?_
  refine v_iadd (v := (i0 : Int) + 2) rfl (by omega) ?_
  refine v_scr (j := i0 + 2) rfl (by omega) (by omega) hL hx2 ?_
  refine q_aload_n rfl rfl ?_
  refine q_call rfl rfl rfl rfl ?_
  refine q_aload_n rfl rfl ?_
  refine q_iconst rfl ?_
  refine q_aload_n rfl rfl ?_
  refine q_iload_n rfl rfl ?_
  refine q_iload_n rfl rfl ?_
  refine v_cv rfl rfl rfl rfl (by decide) ⟨⟨rfl, rfl⟩, by decide, rfl⟩ (Nat.le_of_ble_eq_true rfl) (Nat.le_of_ble_eq_true rfl) (s_95 (a1 := x1) (a2 := x2) hI (show (-2147483648) ≤ x1 ∧ x1 ≤ 2147483647 from by omega) (show (-2147483648) ≤ x2 ∧ x2 ≤ 2147483647 from by omega) (fun c_1 hI_2 hF_3 => ?_) (fun c_4 hI_5 hF_6 => ?_) (fun c_7 y_10 hI_8 hF_9 hy_10 => ?_))
  · skip
    refine bk_thr (z := Int32.ofInt 1) rfl ⟨_, _, rfl⟩ rfl ?_
    refine bk_inl ?_
    refine q_istore rfl (by decide) ?_
    refine q_aload_n rfl rfl ?_
    refine q_aload_n rfl rfl ?_
    refine q_iload rfl rfl ?_
    refine q_iconst rfl ?_
    refine v_iadd (v := (i0 : Int) + 1) rfl (by omega) ?_
    refine v_scr (j := i0 + 1) rfl (by omega) (by omega) hL hx1 ?_
    refine q_aload_n rfl rfl ?_
    refine q_iload rfl rfl ?_
    refine q_iconst rfl ?_
    refine v_iadd (v := (i0 : Int) + 2) rfl (by omega) ?_
    refine v_scr (j := i0 + 2) rfl (by omega) (by omega) hL hx2 ?_
    refine v_cv rfl rfl rfl rfl (by decide) ⟨⟨rfl, rfl⟩, by decide, rfl⟩ (Nat.le_of_ble_eq_true rfl) (Nat.le_of_ble_eq_true rfl) (s_214 (a1 := x1) (a2 := x2) hI_2 (show (-2147483648) ≤ x1 ∧ x1 ≤ 2147483647 from by omega) (show (-2147483648) ≤ x2 ∧ x2 ≤ 2147483647 from by omega) (fun c_11 y_14 hI_12 hF_13 hy_14 => ?_))
    refine bk_inl ?_
    refine q_istore rfl (by decide) ?_
    refine q_goto (t := 1844) rfl (by decide) ?_
    refine Wp_ls [(4, vi (i0 : Int)), (3, .ref 67), (2, .ref 41), (1, .ref 0), (0, .ref a_SC)] (lsub_cons rfl (lsub_cons rfl (lsub_cons rfl (lsub_cons rfl (lsub_cons rfl lsub_nil))))) ?_
    have h_15 := ir_1_3 hI
    have kn_16 : Hid (c_1 1 3 = c 1 3) := hF_3 1 3 (fun q => q.elim (fun h => absurd h.1 (nn rfl)) (fun h => absurd h.1 (nn rfl)))
    have kn_17 : Hid (c_11 1 3 = c 1 3) := (hF_13 1 3 (fun q => q.elim (fun h => absurd h.1 (nn rfl)) (fun h => absurd h (nn rfl)))).trans (hid kn_16)
    have h_18 : c_11 1 3 = c 1 3 := (hid kn_17)
    have h_19 := ir_41_2 hI
    have kn_20 : Hid (c_1 41 2 = c 41 2) := hF_3 41 2 (fun q => q.elim (fun h => absurd h.1 (nn rfl)) (fun h => absurd h.1 (nn rfl)))
    have kn_21 : Hid (c_11 41 2 = c 41 2) := (hF_13 41 2 (fun q => q.elim (fun h => absurd h.2 (ni rfl)) (fun h => absurd h (nn rfl)))).trans (hid kn_20)
    have h_22 : c_11 41 2 = c 41 2 := (hid kn_21)
    exact K P Q c_11 1 (by decide) hI_12 ⟨by omega, ub_fr hU (fun j => (hF_13 2 j (fun q => q.elim (fun h => absurd h.1 (nn rfl)) (fun h => absurd h (nn rfl)))).trans (hF_3 2 j (fun q => q.elim (fun h => absurd h.1 (nn rfl)) (fun h => absurd h.1 (nn rfl))))) (fun j => (hF_13 43 j (fun q => q.elim (fun h => absurd h.1 (nn rfl)) (fun h => absurd h (nn rfl)))).trans (hF_3 43 j (fun q => q.elim (fun h => absurd h.1 (nn rfl)) (fun h => absurd h.1 (nn rfl)))))⟩
  · skip
    refine bk_thr (z := Int32.ofInt 2) rfl ⟨_, _, rfl⟩ rfl ?_
    refine bk_inl ?_
    refine q_istore rfl (by decide) ?_
    refine q_aload_n rfl rfl ?_
    refine q_aload_n rfl rfl ?_
    refine q_iload rfl rfl ?_
    refine q_iconst rfl ?_
    refine v_iadd (v := (i0 : Int) + 1) rfl (by omega) ?_
    refine v_scr (j := i0 + 1) rfl (by omega) (by omega) hL hx1 ?_
    refine q_aload_n rfl rfl ?_
    refine q_iload rfl rfl ?_
    refine q_iconst rfl ?_
    refine v_iadd (v := (i0 : Int) + 2) rfl (by omega) ?_
    refine v_scr (j := i0 + 2) rfl (by omega) (by omega) hL hx2 ?_
    refine v_cv rfl rfl rfl rfl (by decide) ⟨⟨rfl, rfl⟩, by decide, rfl⟩ (Nat.le_of_ble_eq_true rfl) (Nat.le_of_ble_eq_true rfl) (s_214 (a1 := x1) (a2 := x2) hI_5 (show (-2147483648) ≤ x1 ∧ x1 ≤ 2147483647 from by omega) (show (-2147483648) ≤ x2 ∧ x2 ≤ 2147483647 from by omega) (fun c_23 y_26 hI_24 hF_25 hy_26 => ?_))
    refine bk_inl ?_
    refine q_istore rfl (by decide) ?_
    refine q_goto (t := 1844) rfl (by decide) ?_
    refine Wp_ls [(4, vi (i0 : Int)), (3, .ref 67), (2, .ref 41), (1, .ref 0), (0, .ref a_SC)] (lsub_cons rfl (lsub_cons rfl (lsub_cons rfl (lsub_cons rfl (lsub_cons rfl lsub_nil))))) ?_
    have h_27 := ir_1_3 hI
    have kn_28 : Hid (c_4 1 3 = c 1 3) := hF_6 1 3 (fun q => q.elim (fun h => absurd h.1 (nn rfl)) (fun h => absurd h.1 (nn rfl)))
    have kn_29 : Hid (c_23 1 3 = c 1 3) := (hF_25 1 3 (fun q => q.elim (fun h => absurd h.1 (nn rfl)) (fun h => absurd h (nn rfl)))).trans (hid kn_28)
    have h_30 : c_23 1 3 = c 1 3 := (hid kn_29)
    have h_31 := ir_41_2 hI
    have kn_32 : Hid (c_4 41 2 = c 41 2) := hF_6 41 2 (fun q => q.elim (fun h => absurd h.1 (nn rfl)) (fun h => absurd h.1 (nn rfl)))
    have kn_33 : Hid (c_23 41 2 = c 41 2) := (hF_25 41 2 (fun q => q.elim (fun h => absurd h.2 (ni rfl)) (fun h => absurd h (nn rfl)))).trans (hid kn_32)
    have h_34 : c_23 41 2 = c 41 2 := (hid kn_33)
    exact K P Q c_23 1 (by decide) hI_24 ⟨by omega, ub_fr hU (fun j => (hF_25 2 j (fun q => q.elim (fun h => absurd h.1 (nn rfl)) (fun h => absurd h (nn rfl)))).trans (hF_6 2 j (fun q => q.elim (fun h => absurd h.1 (nn rfl)) (fun h => absurd h.1 (nn rfl))))) (fun j => (hF_25 43 j (fun q => q.elim (fun h => absurd h.1 (nn rfl)) (fun h => absurd h (nn rfl)))).trans (hF_6 43 j (fun q => q.elim (fun h => absurd h.1 (nn rfl)) (fun h => absurd h.1 (nn rfl)))))⟩
  refine bk_inl ?_
  refine v_i2l rfl (by omega) ?_
  refine v_ls rfl rfl (by decide) (by decide) (by decide) ?_
  refine q_goto (t := 21) rfl (by decide) ?_
  refine q_iconst rfl ?_
  refine q_iret rfl rfl ?_
  refine bk_inl ?_
  refine q_istore rfl (by decide) ?_
  refine q_aload_n rfl rfl ?_
  refine q_aload_n rfl rfl ?_
  refine q_iload rfl rfl ?_
  refine q_iconst rfl ?_
  refine v_iadd (v := (i0 : Int) + 1) rfl (by omega) ?_
  refine v_scr (j := i0 + 1) rfl (by omega) (by omega) hL hx1 ?_
  refine q_aload_n rfl rfl ?_
  refine q_iload rfl rfl ?_
  refine q_iconst rfl ?_
  refine v_iadd (v := (i0 : Int) + 2) rfl (by omega) ?_
  refine v_scr (j := i0 + 2) rfl (by omega) (by omega) hL hx2 ?_
  have hI_35 := iw_lx (a := 67) (j := 0) (v := y_10) hI_8 (by omega)
  refine v_cv rfl rfl rfl rfl (by decide) ⟨⟨rfl, rfl⟩, by decide, rfl⟩ (Nat.le_of_ble_eq_true rfl) (Nat.le_of_ble_eq_true rfl) (s_214 (a1 := x1) (a2 := x2) hI_35 (show (-2147483648) ≤ x1 ∧ x1 ≤ 2147483647 from by omega) (show (-2147483648) ≤ x2 ∧ x2 ≤ 2147483647 from by omega) (fun c_36 y_39 hI_37 hF_38 hy_39 => ?_))
  refine bk_inl ?_
  refine q_istore rfl (by decide) ?_
  refine q_goto (t := 1844) rfl (by decide) ?_
  refine Wp_ls [(4, vi (i0 : Int)), (3, .ref 67), (2, .ref 41), (1, .ref 0), (0, .ref a_SC)] (lsub_cons rfl (lsub_cons rfl (lsub_cons rfl (lsub_cons rfl (lsub_cons rfl lsub_nil))))) ?_
  have h_40 := ir_1_3 hI
  have kn_41 : Hid (c_7 1 3 = c 1 3) := hF_9 1 3 (fun q => q.elim (fun h => absurd h.1 (nn rfl)) (fun h => absurd h.1 (nn rfl)))
  have kn_42 : Hid (c_36 1 3 = c 1 3) := (hF_38 1 3 (fun q => q.elim (fun h => absurd h.1 (nn rfl)) (fun h => absurd h (nn rfl)))).trans ((up_c (nn rfl)).trans (hid kn_41))
  have h_43 : c_36 1 3 = c 1 3 := (hid kn_42)
  have h_44 := ir_41_2 hI
  have kn_45 : Hid (c_7 41 2 = c 41 2) := hF_9 41 2 (fun q => q.elim (fun h => absurd h.1 (nn rfl)) (fun h => absurd h.1 (nn rfl)))
  have kn_46 : Hid (c_36 41 2 = c 41 2) := (hF_38 41 2 (fun q => q.elim (fun h => absurd h.2 (ni rfl)) (fun h => absurd h (nn rfl)))).trans ((up_c (nn rfl)).trans (hid kn_45))
  have h_47 : c_36 41 2 = c 41 2 := (hid kn_46)
  exact K P Q c_36 0 (by decide) hI_37 ⟨by omega, ub_fr hU (fun j => (hF_38 2 j (fun q => q.elim (fun h => absurd h.1 (nn rfl)) (fun h => absurd h (nn rfl)))).trans ((up_c (nn rfl)).trans (hF_9 2 j (fun q => q.elim (fun h => absurd h.1 (nn rfl)) (fun h => absurd h.1 (nn rfl)))))) (fun j => (hF_38 43 j (fun q => q.elim (fun h => absurd h.1 (nn rfl)) (fun h => absurd h (nn rfl)))).trans ((up_c (nn rfl)).trans (hF_9 43 j (fun q => q.elim (fun h => absurd h.1 (nn rfl)) (fun h => absurd h.1 (nn rfl))))))⟩

set_option maxRecDepth 100000 in
set_option maxHeartbeats 4000000 in
theorem o_11 {xs : Nat → Int32} {L i0 d nc ns P Q : Nat} {c : ME} {Z : AR → Prop} (hi : i0 + 8 ≤ L) (hL : L ≤ 100000) (hI : Iv 0 (-1) P Q c) (hR : Rq P c) (K : ∀ (P2 Q2 : Nat) (c2 : ME) (e : Nat), e ≤ 1 → Iv 0 (-1) P2 Q2 c2 → (Rq P2 c2) → Wp (a_scr L xs) (d + 90) 296 1844 [(4, vi (i0 : Int)), (3, .ref 67), (2, .ref 41), (1, .ref 0), (0, .ref a_SC)] [] (Wd P2 Q2 P2 P2 c2) (nc + e) (ns + 6 * e) Z) : Wp (a_scr L xs) (d + 90) 296 603 [(4, vi (i0 : Int)), (3, .ref 67), (2, .ref 41), (1, .ref 0), (0, .ref a_SC)] [] (Wd P Q P P c) nc ns Z := by
  obtain ⟨x1, hx1⟩ : ∃ z, (xs (i0 + 1)).toInt = z := ⟨_, rfl⟩
  have x1r := c_rng (xs (i0 + 1))
  rw [hx1] at x1r
  obtain ⟨x2, hx2⟩ : ∃ z, (xs (i0 + 2)).toInt = z := ⟨_, rfl⟩
  have x2r := c_rng (xs (i0 + 2))
  rw [hx2] at x2r
  obtain ⟨x3, hx3⟩ : ∃ z, (xs (i0 + 3)).toInt = z := ⟨_, rfl⟩
  have x3r := c_rng (xs (i0 + 3))
  rw [hx3] at x3r
  obtain ⟨x4, hx4⟩ : ∃ z, (xs (i0 + 4)).toInt = z := ⟨_, rfl⟩
  have x4r := c_rng (xs (i0 + 4))
  rw [hx4] at x4r
  obtain ⟨x5, hx5⟩ : ∃ z, (xs (i0 + 5)).toInt = z := ⟨_, rfl⟩
  have x5r := c_rng (xs (i0 + 5))
  rw [hx5] at x5r
  obtain ⟨x6, hx6⟩ : ∃ z, (xs (i0 + 6)).toInt = z := ⟨_, rfl⟩
  have x6r := c_rng (xs (i0 + 6))
  rw [hx6] at x6r
  obtain ⟨x7, hx7⟩ : ∃ z, (xs (i0 + 7)).toInt = z := ⟨_, rfl⟩
  have x7r := c_rng (xs (i0 + 7))
  rw [hx7] at x7r
  have hT := rl_t hR
  have hU := rl_u hR
  have hP := iv_P hI
  have hQ := iv_Q hI
  refine q_aload_n rfl rfl ?_
  refine q_aload_n rfl rfl ?_
  refine q_iload rfl rfl ?_
  refine q_iconst rfl ?_
  refine v_iadd (v := (i0 : Int) + 1) rfl (by omega) ?_
  refine v_scr (j := i0 + 1) rfl (by omega) (by omega) hL hx1 ?_
  refine q_aload_n rfl rfl ?_
  refine q_iload rfl rfl ?_
  refine q_iconst rfl ?_
  refine v_iadd (v := (i0 : Int) + 2) rfl (by omega) ?_
  refine v_scr (j := i0 + 2) rfl (by omega) (by omega) hL hx2 ?_
  refine q_aload_n rfl rfl ?_
  refine q_call rfl rfl rfl rfl ?_
  refine q_aload_n rfl rfl ?_
  refine q_iconst rfl ?_
  refine q_aload_n rfl rfl ?_
  refine q_iload_n rfl rfl ?_
  refine q_iload_n rfl rfl ?_
  refine v_cv rfl rfl rfl rfl (by decide) ⟨⟨rfl, rfl⟩, by decide, rfl⟩ (Nat.le_of_ble_eq_true rfl) (Nat.le_of_ble_eq_true rfl) (s_97 (a1 := x1) (a2 := x2) hI (show (-2147483648) ≤ x1 ∧ x1 ≤ 2147483647 from by omega) (show (-2147483648) ≤ x2 ∧ x2 ≤ 2147483647 from by omega) (fun c_1 hI_2 hF_3 => ?_) (fun c_4 hI_5 hF_6 => ?_) (fun c_7 y_10 hI_8 hF_9 hy_10 => ?_))
  · skip
    refine bk_thr (z := Int32.ofInt 1) rfl ⟨_, _, rfl⟩ rfl ?_
    refine bk_inl ?_
    refine q_istore rfl (by decide) ?_
    refine q_aload_n rfl rfl ?_
    refine q_aload_n rfl rfl ?_
    refine q_iload rfl rfl ?_
    refine q_iconst rfl ?_
    refine v_iadd (v := (i0 : Int) + 1) rfl (by omega) ?_
    refine v_scr (j := i0 + 1) rfl (by omega) (by omega) hL hx1 ?_
    refine q_aload_n rfl rfl ?_
    refine q_iload rfl rfl ?_
    refine q_iconst rfl ?_
    refine v_iadd (v := (i0 : Int) + 2) rfl (by omega) ?_
    refine v_scr (j := i0 + 2) rfl (by omega) (by omega) hL hx2 ?_
    refine v_cv rfl rfl rfl rfl (by decide) ⟨⟨rfl, rfl⟩, by decide, rfl⟩ (Nat.le_of_ble_eq_true rfl) (Nat.le_of_ble_eq_true rfl) (s_215 (a1 := x1) (a2 := x2) hI_2 (show (-2147483648) ≤ x1 ∧ x1 ≤ 2147483647 from by omega) (show (-2147483648) ≤ x2 ∧ x2 ≤ 2147483647 from by omega) (fun c_11 y_14 hI_12 hF_13 hy_14 => ?_))
    refine bk_inl ?_
    refine q_istore rfl (by decide) ?_
    refine q_goto (t := 1844) rfl (by decide) ?_
    refine Wp_ls [(4, vi (i0 : Int)), (3, .ref 67), (2, .ref 41), (1, .ref 0), (0, .ref a_SC)] (lsub_cons rfl (lsub_cons rfl (lsub_cons rfl (lsub_cons rfl (lsub_cons rfl lsub_nil))))) ?_
    have h_15 := ir_1_3 hI
    have kn_16 : Hid (c_1 1 3 = c 1 3) := hF_3 1 3 (fun q => q.elim (fun h => absurd h.1 (nn rfl)) (fun h => absurd h.1 (nn rfl)))
    have kn_17 : Hid (c_11 1 3 = c 1 3) := (hF_13 1 3 (fun q => q.elim (fun h => absurd h.1 (nn rfl)) (fun h => absurd h (nn rfl)))).trans (hid kn_16)
    have h_18 : c_11 1 3 = c 1 3 := (hid kn_17)
    have h_19 := ir_41_2 hI
    have kn_20 : Hid (c_1 41 2 = c 41 2) := hF_3 41 2 (fun q => q.elim (fun h => absurd h.1 (nn rfl)) (fun h => absurd h.1 (nn rfl)))
    have kn_21 : Hid (c_11 41 2 = c 41 2) := (hF_13 41 2 (fun q => q.elim (fun h => absurd h.2 (ni rfl)) (fun h => absurd h (nn rfl)))).trans (hid kn_20)
    have h_22 : c_11 41 2 = c 41 2 := (hid kn_21)
    exact K P Q c_11 1 (by decide) hI_12 ⟨by omega, ub_fr hU (fun j => (hF_13 2 j (fun q => q.elim (fun h => absurd h.1 (nn rfl)) (fun h => absurd h (nn rfl)))).trans (hF_3 2 j (fun q => q.elim (fun h => absurd h.1 (nn rfl)) (fun h => absurd h.1 (nn rfl))))) (fun j => (hF_13 43 j (fun q => q.elim (fun h => absurd h.1 (nn rfl)) (fun h => absurd h (nn rfl)))).trans (hF_3 43 j (fun q => q.elim (fun h => absurd h.1 (nn rfl)) (fun h => absurd h.1 (nn rfl)))))⟩
  · skip
    refine bk_thr (z := Int32.ofInt 2) rfl ⟨_, _, rfl⟩ rfl ?_
    refine bk_inl ?_
    refine q_istore rfl (by decide) ?_
    refine q_aload_n rfl rfl ?_
    refine q_aload_n rfl rfl ?_
    refine q_iload rfl rfl ?_
    refine q_iconst rfl ?_
    refine v_iadd (v := (i0 : Int) + 1) rfl (by omega) ?_
    refine v_scr (j := i0 + 1) rfl (by omega) (by omega) hL hx1 ?_
    refine q_aload_n rfl rfl ?_
    refine q_iload rfl rfl ?_
    refine q_iconst rfl ?_
    refine v_iadd (v := (i0 : Int) + 2) rfl (by omega) ?_
    refine v_scr (j := i0 + 2) rfl (by omega) (by omega) hL hx2 ?_
    refine v_cv rfl rfl rfl rfl (by decide) ⟨⟨rfl, rfl⟩, by decide, rfl⟩ (Nat.le_of_ble_eq_true rfl) (Nat.le_of_ble_eq_true rfl) (s_215 (a1 := x1) (a2 := x2) hI_5 (show (-2147483648) ≤ x1 ∧ x1 ≤ 2147483647 from by omega) (show (-2147483648) ≤ x2 ∧ x2 ≤ 2147483647 from by omega) (fun c_23 y_26 hI_24 hF_25 hy_26 => ?_))
    refine bk_inl ?_
    refine q_istore rfl (by decide) ?_
    refine q_goto (t := 1844) rfl (by decide) ?_
    refine Wp_ls [(4, vi (i0 : Int)), (3, .ref 67), (2, .ref 41), (1, .ref 0), (0, .ref a_SC)] (lsub_cons rfl (lsub_cons rfl (lsub_cons rfl (lsub_cons rfl (lsub_cons rfl lsub_nil))))) ?_
    have h_27 := ir_1_3 hI
    have kn_28 : Hid (c_4 1 3 = c 1 3) := hF_6 1 3 (fun q => q.elim (fun h => absurd h.1 (nn rfl)) (fun h => absurd h.1 (nn rfl)))
    have kn_29 : Hid (c_23 1 3 = c 1 3) := (hF_25 1 3 (fun q => q.elim (fun h => absurd h.1 (nn rfl)) (fun h => absurd h (nn rfl)))).trans (hid kn_28)
    have h_30 : c_23 1 3 = c 1 3 := (hid kn_29)
    have h_31 := ir_41_2 hI
    have kn_32 : Hid (c_4 41 2 = c 41 2) := hF_6 41 2 (fun q => q.elim (fun h => absurd h.1 (nn rfl)) (fun h => absurd h.1 (nn rfl)))
    have kn_33 : Hid (c_23 41 2 = c 41 2) := (hF_25 41 2 (fun q => q.elim (fun h => absurd h.2 (ni rfl)) (fun h => absurd h (nn rfl)))).trans (hid kn_32)
    have h_34 : c_23 41 2 = c 41 2 := (hid kn_33)
    exact K P Q c_23 1 (by decide) hI_24 ⟨by omega, ub_fr hU (fun j => (hF_25 2 j (fun q => q.elim (fun h => absurd h.1 (nn rfl)) (fun h => absurd h (nn rfl)))).trans (hF_6 2 j (fun q => q.elim (fun h => absurd h.1 (nn rfl)) (fun h => absurd h.1 (nn rfl))))) (fun j => (hF_25 43 j (fun q => q.elim (fun h => absurd h.1 (nn rfl)) (fun h => absurd h (nn rfl)))).trans (hF_6 43 j (fun q => q.elim (fun h => absurd h.1 (nn rfl)) (fun h => absurd h.1 (nn rfl)))))⟩
  refine bk_inl ?_
  refine v_i2l rfl (by omega) ?_
  refine v_ls rfl rfl (by decide) (by decide) (by decide) ?_
  refine q_goto (t := 21) rfl (by decide) ?_
  refine q_iconst rfl ?_
  refine q_iret rfl rfl ?_
  refine bk_inl ?_
  refine q_istore rfl (by decide) ?_
  refine q_aload_n rfl rfl ?_
  refine q_aload_n rfl rfl ?_
  refine q_iload rfl rfl ?_
  refine q_iconst rfl ?_
  refine v_iadd (v := (i0 : Int) + 1) rfl (by omega) ?_
  refine v_scr (j := i0 + 1) rfl (by omega) (by omega) hL hx1 ?_
  refine q_aload_n rfl rfl ?_
  refine q_iload rfl rfl ?_
  refine q_iconst rfl ?_
  refine v_iadd (v := (i0 : Int) + 2) rfl (by omega) ?_
  refine v_scr (j := i0 + 2) rfl (by omega) (by omega) hL hx2 ?_
  have hI_35 := iw_lx (a := 67) (j := 0) (v := y_10) hI_8 (by omega)
  refine v_cv rfl rfl rfl rfl (by decide) ⟨⟨rfl, rfl⟩, by decide, rfl⟩ (Nat.le_of_ble_eq_true rfl) (Nat.le_of_ble_eq_true rfl) (s_215 (a1 := x1) (a2 := x2) hI_35 (show (-2147483648) ≤ x1 ∧ x1 ≤ 2147483647 from by omega) (show (-2147483648) ≤ x2 ∧ x2 ≤ 2147483647 from by omega) (fun c_36 y_39 hI_37 hF_38 hy_39 => ?_))
  refine bk_inl ?_
  refine q_istore rfl (by decide) ?_
  refine q_goto (t := 1844) rfl (by decide) ?_
  refine Wp_ls [(4, vi (i0 : Int)), (3, .ref 67), (2, .ref 41), (1, .ref 0), (0, .ref a_SC)] (lsub_cons rfl (lsub_cons rfl (lsub_cons rfl (lsub_cons rfl (lsub_cons rfl lsub_nil))))) ?_
  have h_40 := ir_1_3 hI
  have kn_41 : Hid (c_7 1 3 = c 1 3) := hF_9 1 3 (fun q => q.elim (fun h => absurd h.1 (nn rfl)) (fun h => absurd h.1 (nn rfl)))
  have kn_42 : Hid (c_36 1 3 = c 1 3) := (hF_38 1 3 (fun q => q.elim (fun h => absurd h.1 (nn rfl)) (fun h => absurd h (nn rfl)))).trans ((up_c (nn rfl)).trans (hid kn_41))
  have h_43 : c_36 1 3 = c 1 3 := (hid kn_42)
  have h_44 := ir_41_2 hI
  have kn_45 : Hid (c_7 41 2 = c 41 2) := hF_9 41 2 (fun q => q.elim (fun h => absurd h.1 (nn rfl)) (fun h => absurd h.1 (nn rfl)))
  have kn_46 : Hid (c_36 41 2 = c 41 2) := (hF_38 41 2 (fun q => q.elim (fun h => absurd h.2 (ni rfl)) (fun h => absurd h (nn rfl)))).trans ((up_c (nn rfl)).trans (hid kn_45))
  have h_47 : c_36 41 2 = c 41 2 := (hid kn_46)
  exact K P Q c_36 0 (by decide) hI_37 ⟨by omega, ub_fr hU (fun j => (hF_38 2 j (fun q => q.elim (fun h => absurd h.1 (nn rfl)) (fun h => absurd h (nn rfl)))).trans ((up_c (nn rfl)).trans (hF_9 2 j (fun q => q.elim (fun h => absurd h.1 (nn rfl)) (fun h => absurd h.1 (nn rfl)))))) (fun j => (hF_38 43 j (fun q => q.elim (fun h => absurd h.1 (nn rfl)) (fun h => absurd h (nn rfl)))).trans ((up_c (nn rfl)).trans (hF_9 43 j (fun q => q.elim (fun h => absurd h.1 (nn rfl)) (fun h => absurd h.1 (nn rfl))))))⟩

set_option maxRecDepth 100000 in
set_option maxHeartbeats 4000000 in
theorem o_12 {xs : Nat → Int32} {L i0 d nc ns P Q : Nat} {c : ME} {Z : AR → Prop} (hi : i0 + 8 ≤ L) (hL : L ≤ 100000) (hI : Iv 0 (-1) P Q c) (hR : Rq P c) (K : ∀ (P2 Q2 : Nat) (c2 : ME) (e : Nat), e ≤ 1 → Iv 0 (-1) P2 Q2 c2 → (Rq P2 c2) → Wp (a_scr L xs) (d + 90) 296 1844 [(4, vi (i0 : Int)), (3, .ref 67), (2, .ref 41), (1, .ref 0), (0, .ref a_SC)] [] (Wd P2 Q2 P2 P2 c2) (nc + e) (ns + 6 * e) Z) : Wp (a_scr L xs) (d + 90) 296 643 [(4, vi (i0 : Int)), (3, .ref 67), (2, .ref 41), (1, .ref 0), (0, .ref a_SC)] [] (Wd P Q P P c) nc ns Z := by
  obtain ⟨x1, hx1⟩ : ∃ z, (xs (i0 + 1)).toInt = z := ⟨_, rfl⟩
  have x1r := c_rng (xs (i0 + 1))
  rw [hx1] at x1r
  obtain ⟨x2, hx2⟩ : ∃ z, (xs (i0 + 2)).toInt = z := ⟨_, rfl⟩
  have x2r := c_rng (xs (i0 + 2))
  rw [hx2] at x2r
  obtain ⟨x3, hx3⟩ : ∃ z, (xs (i0 + 3)).toInt = z := ⟨_, rfl⟩
  have x3r := c_rng (xs (i0 + 3))
  rw [hx3] at x3r
  obtain ⟨x4, hx4⟩ : ∃ z, (xs (i0 + 4)).toInt = z := ⟨_, rfl⟩
  have x4r := c_rng (xs (i0 + 4))
  rw [hx4] at x4r
  obtain ⟨x5, hx5⟩ : ∃ z, (xs (i0 + 5)).toInt = z := ⟨_, rfl⟩
  have x5r := c_rng (xs (i0 + 5))
  rw [hx5] at x5r
  obtain ⟨x6, hx6⟩ : ∃ z, (xs (i0 + 6)).toInt = z := ⟨_, rfl⟩
  have x6r := c_rng (xs (i0 + 6))
  rw [hx6] at x6r
  obtain ⟨x7, hx7⟩ : ∃ z, (xs (i0 + 7)).toInt = z := ⟨_, rfl⟩
  have x7r := c_rng (xs (i0 + 7))
  rw [hx7] at x7r
  have hT := rl_t hR
  have hU := rl_u hR
  have hP := iv_P hI
  have hQ := iv_Q hI
  refine q_aload_n rfl rfl ?_
  refine q_aload_n rfl rfl ?_
  refine q_iload rfl rfl ?_
  refine q_iconst rfl ?_
  refine v_iadd (v := (i0 : Int) + 1) rfl (by omega) ?_
  refine v_scr (j := i0 + 1) rfl (by omega) (by omega) hL hx1 ?_
  refine q_aload_n rfl rfl ?_
  refine q_call rfl rfl rfl rfl ?_
  refine q_aload_n rfl rfl ?_
  refine q_iconst rfl ?_
  refine q_aload_n rfl rfl ?_
  refine q_iload_n rfl rfl ?_
  refine v_cv rfl rfl rfl rfl (by decide) ⟨⟨rfl, rfl⟩, by decide, rfl⟩ (Nat.le_of_ble_eq_true rfl) (Nat.le_of_ble_eq_true rfl) (s_103 (a1 := x1) hI (show (-2147483648) ≤ x1 ∧ x1 ≤ 2147483647 from by omega) (fun c_1 hI_2 hF_3 => ?_) (fun c_4 y_7 hI_5 hF_6 hy_7 => ?_))
  · skip
    refine bk_thr (z := Int32.ofInt 1) rfl ⟨_, _, rfl⟩ rfl ?_
    refine bk_inl ?_
    refine q_istore rfl (by decide) ?_
    refine q_aload_n rfl rfl ?_
    refine q_aload_n rfl rfl ?_
    refine q_iload rfl rfl ?_
    refine q_iconst rfl ?_
    refine v_iadd (v := (i0 : Int) + 1) rfl (by omega) ?_
    refine v_scr (j := i0 + 1) rfl (by omega) (by omega) hL hx1 ?_
    refine v_cv rfl rfl rfl rfl (by decide) ⟨⟨rfl, rfl⟩, by decide, rfl⟩ (Nat.le_of_ble_eq_true rfl) (Nat.le_of_ble_eq_true rfl) (s_216 (a1 := x1) hI_2 (show (-2147483648) ≤ x1 ∧ x1 ≤ 2147483647 from by omega) (fun c_8 y_11 hI_9 hF_10 hy_11 => ?_))
    refine bk_inl ?_
    refine q_istore rfl (by decide) ?_
    refine q_goto (t := 1844) rfl (by decide) ?_
    refine Wp_ls [(4, vi (i0 : Int)), (3, .ref 67), (2, .ref 41), (1, .ref 0), (0, .ref a_SC)] (lsub_cons rfl (lsub_cons rfl (lsub_cons rfl (lsub_cons rfl (lsub_cons rfl lsub_nil))))) ?_
    have h_12 := ir_1_3 hI
    have kn_13 : Hid (c_1 1 3 = c 1 3) := hF_3 1 3 (fun q => q.elim (fun h => absurd h.1 (nn rfl)) (fun q => q.elim (fun h => absurd h (pn hP rfl rfl)) (fun h => absurd h (pn hP rfl rfl))))
    have kn_14 : Hid (c_8 1 3 = c 1 3) := (hF_10 1 3 (fun q => q.elim (fun h => absurd h.1 (nn rfl)) (fun q => q.elim (fun h => absurd h (nn rfl)) (fun q => q.elim (fun h => absurd h (nn rfl)) (fun q => q.elim (fun h => absurd h (nn rfl)) (fun h => absurd h (nn rfl))))))).trans (hid kn_13)
    have h_15 : c_8 1 3 = c 1 3 := (hid kn_14)
    have h_16 := ir_41_2 hI
    have kn_17 : Hid (c_1 41 2 = c 41 2) := hF_3 41 2 (fun q => q.elim (fun h => absurd h.1 (nn rfl)) (fun q => q.elim (fun h => absurd h (pn hP rfl rfl)) (fun h => absurd h (pn hP rfl rfl))))
    have kn_18 : Hid (c_8 41 2 = c 41 2) := (hF_10 41 2 (fun q => q.elim (fun h => absurd h.2 (ni rfl)) (fun q => q.elim (fun h => absurd h (nn rfl)) (fun q => q.elim (fun h => absurd h (nn rfl)) (fun q => q.elim (fun h => absurd h (nn rfl)) (fun h => absurd h (nn rfl))))))).trans (hid kn_17)
    have h_19 : c_8 41 2 = c 41 2 := (hid kn_18)
    exact K P Q c_8 1 (by decide) hI_9 ⟨by omega, ub_fr hU (fun j => (hF_10 2 j (fun q => q.elim (fun h => absurd h.1 (nn rfl)) (fun q => q.elim (fun h => absurd h (nn rfl)) (fun q => q.elim (fun h => absurd h (nn rfl)) (fun q => q.elim (fun h => absurd h (nn rfl)) (fun h => absurd h (nn rfl))))))).trans (hF_3 2 j (fun q => q.elim (fun h => absurd h.1 (nn rfl)) (fun q => q.elim (fun h => absurd h (pn hP rfl rfl)) (fun h => absurd h (pn hP rfl rfl)))))) (fun j => (hF_10 43 j (fun q => q.elim (fun h => absurd h.1 (nn rfl)) (fun q => q.elim (fun h => absurd h (nn rfl)) (fun q => q.elim (fun h => absurd h (nn rfl)) (fun q => q.elim (fun h => absurd h (nn rfl)) (fun h => absurd h (nn rfl))))))).trans (hF_3 43 j (fun q => q.elim (fun h => absurd h.1 (nn rfl)) (fun q => q.elim (fun h => absurd h (pn hP rfl rfl)) (fun h => absurd h (pn hP rfl rfl))))))⟩
  refine bk_inl ?_
  refine v_i2l rfl (by omega) ?_
  refine v_ls rfl rfl (by decide) (by decide) (by decide) ?_
  refine q_goto (t := 15) rfl (by decide) ?_
  refine q_iconst rfl ?_
  refine q_iret rfl rfl ?_
  refine bk_inl ?_
  refine q_istore rfl (by decide) ?_
  refine q_aload_n rfl rfl ?_
  refine q_aload_n rfl rfl ?_
  refine q_iload rfl rfl ?_
  refine q_iconst rfl ?_
  refine v_iadd (v := (i0 : Int) + 1) rfl (by omega) ?_
  refine v_scr (j := i0 + 1) rfl (by omega) (by omega) hL hx1 ?_
  have hI_20 := iw_lx (a := 67) (j := 0) (v := y_7) hI_5 (by omega)
  refine v_cv rfl rfl rfl rfl (by decide) ⟨⟨rfl, rfl⟩, by decide, rfl⟩ (Nat.le_of_ble_eq_true rfl) (Nat.le_of_ble_eq_true rfl) (s_216 (a1 := x1) hI_20 (show (-2147483648) ≤ x1 ∧ x1 ≤ 2147483647 from by omega) (fun c_21 y_24 hI_22 hF_23 hy_24 => ?_))
  refine bk_inl ?_
  refine q_istore rfl (by decide) ?_
  refine q_goto (t := 1844) rfl (by decide) ?_
  refine Wp_ls [(4, vi (i0 : Int)), (3, .ref 67), (2, .ref 41), (1, .ref 0), (0, .ref a_SC)] (lsub_cons rfl (lsub_cons rfl (lsub_cons rfl (lsub_cons rfl (lsub_cons rfl lsub_nil))))) ?_
  have h_25 := ir_1_3 hI
  have kn_26 : Hid (c_4 1 3 = c 1 3) := hF_6 1 3 (fun q => q.elim (fun h => absurd h.1 (nn rfl)) (fun q => q.elim (fun h => absurd h (pn hP rfl rfl)) (fun h => absurd h (pn hP rfl rfl))))
  have kn_27 : Hid (c_21 1 3 = c 1 3) := (hF_23 1 3 (fun q => q.elim (fun h => absurd h.1 (nn rfl)) (fun q => q.elim (fun h => absurd h (nn rfl)) (fun q => q.elim (fun h => absurd h (nn rfl)) (fun q => q.elim (fun h => absurd h (nn rfl)) (fun h => absurd h (nn rfl))))))).trans ((up_c (nn rfl)).trans (hid kn_26))
  have h_28 : c_21 1 3 = c 1 3 := (hid kn_27)
  have h_29 := ir_41_2 hI
  have kn_30 : Hid (c_4 41 2 = c 41 2) := hF_6 41 2 (fun q => q.elim (fun h => absurd h.1 (nn rfl)) (fun q => q.elim (fun h => absurd h (pn hP rfl rfl)) (fun h => absurd h (pn hP rfl rfl))))
  have kn_31 : Hid (c_21 41 2 = c 41 2) := (hF_23 41 2 (fun q => q.elim (fun h => absurd h.2 (ni rfl)) (fun q => q.elim (fun h => absurd h (nn rfl)) (fun q => q.elim (fun h => absurd h (nn rfl)) (fun q => q.elim (fun h => absurd h (nn rfl)) (fun h => absurd h (nn rfl))))))).trans ((up_c (nn rfl)).trans (hid kn_30))
  have h_32 : c_21 41 2 = c 41 2 := (hid kn_31)
  exact K P Q c_21 0 (by decide) hI_22 ⟨by omega, ub_fr hU (fun j => (hF_23 2 j (fun q => q.elim (fun h => absurd h.1 (nn rfl)) (fun q => q.elim (fun h => absurd h (nn rfl)) (fun q => q.elim (fun h => absurd h (nn rfl)) (fun q => q.elim (fun h => absurd h (nn rfl)) (fun h => absurd h (nn rfl))))))).trans ((up_c (nn rfl)).trans (hF_6 2 j (fun q => q.elim (fun h => absurd h.1 (nn rfl)) (fun q => q.elim (fun h => absurd h (pn hP rfl rfl)) (fun h => absurd h (pn hP rfl rfl))))))) (fun j => (hF_23 43 j (fun q => q.elim (fun h => absurd h.1 (nn rfl)) (fun q => q.elim (fun h => absurd h (nn rfl)) (fun q => q.elim (fun h => absurd h (nn rfl)) (fun q => q.elim (fun h => absurd h (nn rfl)) (fun h => absurd h (nn rfl))))))).trans ((up_c (nn rfl)).trans (hF_6 43 j (fun q => q.elim (fun h => absurd h.1 (nn rfl)) (fun q => q.elim (fun h => absurd h (pn hP rfl rfl)) (fun h => absurd h (pn hP rfl rfl)))))))⟩

set_option maxRecDepth 100000 in
set_option maxHeartbeats 4000000 in
theorem o_13 {xs : Nat → Int32} {L i0 d nc ns P Q : Nat} {c : ME} {Z : AR → Prop} (hi : i0 + 8 ≤ L) (hL : L ≤ 100000) (hI : Iv 0 (-1) P Q c) (hR : Rq P c) (K : ∀ (P2 Q2 : Nat) (c2 : ME) (e : Nat), e ≤ 1 → Iv 0 (-1) P2 Q2 c2 → (Rq P2 c2) → Wp (a_scr L xs) (d + 90) 296 1844 [(4, vi (i0 : Int)), (3, .ref 67), (2, .ref 41), (1, .ref 0), (0, .ref a_SC)] [] (Wd P2 Q2 P2 P2 c2) (nc + e) (ns + 6 * e) Z) : Wp (a_scr L xs) (d + 90) 296 671 [(4, vi (i0 : Int)), (3, .ref 67), (2, .ref 41), (1, .ref 0), (0, .ref a_SC)] [] (Wd P Q P P c) nc ns Z := by
  obtain ⟨x1, hx1⟩ : ∃ z, (xs (i0 + 1)).toInt = z := ⟨_, rfl⟩
  have x1r := c_rng (xs (i0 + 1))
  rw [hx1] at x1r
  obtain ⟨x2, hx2⟩ : ∃ z, (xs (i0 + 2)).toInt = z := ⟨_, rfl⟩
  have x2r := c_rng (xs (i0 + 2))
  rw [hx2] at x2r
  obtain ⟨x3, hx3⟩ : ∃ z, (xs (i0 + 3)).toInt = z := ⟨_, rfl⟩
  have x3r := c_rng (xs (i0 + 3))
  rw [hx3] at x3r
  obtain ⟨x4, hx4⟩ : ∃ z, (xs (i0 + 4)).toInt = z := ⟨_, rfl⟩
  have x4r := c_rng (xs (i0 + 4))
  rw [hx4] at x4r
  obtain ⟨x5, hx5⟩ : ∃ z, (xs (i0 + 5)).toInt = z := ⟨_, rfl⟩
  have x5r := c_rng (xs (i0 + 5))
  rw [hx5] at x5r
  obtain ⟨x6, hx6⟩ : ∃ z, (xs (i0 + 6)).toInt = z := ⟨_, rfl⟩
  have x6r := c_rng (xs (i0 + 6))
  rw [hx6] at x6r
  obtain ⟨x7, hx7⟩ : ∃ z, (xs (i0 + 7)).toInt = z := ⟨_, rfl⟩
  have x7r := c_rng (xs (i0 + 7))
  rw [hx7] at x7r
  have hT := rl_t hR
  have hU := rl_u hR
  have hP := iv_P hI
  have hQ := iv_Q hI
  refine q_aload_n rfl rfl ?_
  refine q_aload_n rfl rfl ?_
  refine q_iload rfl rfl ?_
  refine q_iconst rfl ?_
  refine v_iadd (v := (i0 : Int) + 1) rfl (by omega) ?_
  refine v_scr (j := i0 + 1) rfl (by omega) (by omega) hL hx1 ?_
  refine q_aload_n rfl rfl ?_
  refine q_iload rfl rfl ?_
  refine q_iconst rfl ?_
  refine v_iadd (v := (i0 : Int) + 2) rfl (by omega) ?_
  refine v_scr (j := i0 + 2) rfl (by omega) (by omega) hL hx2 ?_
  refine q_aload_n rfl rfl ?_
  refine q_iload rfl rfl ?_
  refine q_iconst rfl ?_
  refine v_iadd (v := (i0 : Int) + 3) rfl (by omega) ?_
  refine v_scr (j := i0 + 3) rfl (by omega) (by omega) hL hx3 ?_
  refine q_aload_n rfl rfl ?_
  refine q_iload rfl rfl ?_
  refine q_iconst rfl ?_
  refine v_iadd (v := (i0 : Int) + 4) rfl (by omega) ?_
  refine v_scr (j := i0 + 4) rfl (by omega) (by omega) hL hx4 ?_
  refine q_aload_n rfl rfl ?_
  refine q_iload rfl rfl ?_
  refine q_iconst rfl ?_
  refine v_iadd (v := (i0 : Int) + 5) rfl (by omega) ?_
  refine v_scr (j := i0 + 5) rfl (by omega) (by omega) hL hx5 ?_
  refine q_aload_n rfl rfl ?_
  refine q_iload rfl rfl ?_
  refine v_bip rfl (by decide) ?_
  refine v_iadd (v := (i0 : Int) + 6) rfl (by omega) ?_
  refine v_scr (j := i0 + 6) rfl (by omega) (by omega) hL hx6 ?_
  refine q_aload_n rfl rfl ?_
  refine q_iload rfl rfl ?_
  refine v_bip rfl (by decide) ?_
  refine v_iadd (v := (i0 : Int) + 7) rfl (by omega) ?_
  refine v_scr (j := i0 + 7) rfl (by omega) (by omega) hL hx7 ?_
  refine q_aload_n rfl rfl ?_
  refine q_call rfl rfl rfl rfl ?_
  refine q_aload rfl rfl ?_
  refine q_iconst rfl ?_
  refine q_aload_n rfl rfl ?_
  refine q_iload_n rfl rfl ?_
  refine q_iload_n rfl rfl ?_
  refine q_iload_n rfl rfl ?_
  refine q_iload rfl rfl ?_
  refine q_iload rfl rfl ?_
  refine q_iload rfl rfl ?_
  refine q_iload rfl rfl ?_
  refine v_cv rfl rfl rfl rfl (by decide) ⟨⟨rfl, rfl⟩, by decide, rfl⟩ (Nat.le_of_ble_eq_true rfl) (Nat.le_of_ble_eq_true rfl) (s_104 (a1 := x1) (a2 := x2) (a3 := x3) (a4 := x4) (a5 := x5) (a6 := x6) (a7 := x7) hI (show (-2147483648) ≤ x1 ∧ x1 ≤ 2147483647 from by omega) (show (-2147483648) ≤ x2 ∧ x2 ≤ 2147483647 from by omega) (show (-2147483648) ≤ x3 ∧ x3 ≤ 2147483647 from by omega) (show (-2147483648) ≤ x4 ∧ x4 ≤ 2147483647 from by omega) (show (-2147483648) ≤ x5 ∧ x5 ≤ 2147483647 from by omega) (show (-2147483648) ≤ x6 ∧ x6 ≤ 2147483647 from by omega) (show (-2147483648) ≤ x7 ∧ x7 ≤ 2147483647 from by omega) (fun c_1 hI_2 hF_3 => ?_) (fun c_4 y_7 hI_5 hF_6 hy_7 => ?_))
  · skip
    refine bk_thr (z := Int32.ofInt 1) rfl ⟨_, _, rfl⟩ rfl ?_
    refine bk_inl ?_
    refine q_istore rfl (by decide) ?_
    refine q_aload_n rfl rfl ?_
    refine q_aload_n rfl rfl ?_
    refine q_iload rfl rfl ?_
    refine q_iconst rfl ?_
    refine v_iadd (v := (i0 : Int) + 1) rfl (by omega) ?_
    refine v_scr (j := i0 + 1) rfl (by omega) (by omega) hL hx1 ?_
    refine q_aload_n rfl rfl ?_
    refine q_iload rfl rfl ?_
    refine q_iconst rfl ?_
    refine v_iadd (v := (i0 : Int) + 2) rfl (by omega) ?_
    refine v_scr (j := i0 + 2) rfl (by omega) (by omega) hL hx2 ?_
    refine q_aload_n rfl rfl ?_
    refine q_iload rfl rfl ?_
    refine q_iconst rfl ?_
    refine v_iadd (v := (i0 : Int) + 3) rfl (by omega) ?_
    refine v_scr (j := i0 + 3) rfl (by omega) (by omega) hL hx3 ?_
    refine q_aload_n rfl rfl ?_
    refine q_iload rfl rfl ?_
    refine q_iconst rfl ?_
    refine v_iadd (v := (i0 : Int) + 4) rfl (by omega) ?_
    refine v_scr (j := i0 + 4) rfl (by omega) (by omega) hL hx4 ?_
    refine q_aload_n rfl rfl ?_
    refine q_iload rfl rfl ?_
    refine q_iconst rfl ?_
    refine v_iadd (v := (i0 : Int) + 5) rfl (by omega) ?_
    refine v_scr (j := i0 + 5) rfl (by omega) (by omega) hL hx5 ?_
    refine q_aload_n rfl rfl ?_
    refine q_iload rfl rfl ?_
    refine v_bip rfl (by decide) ?_
    refine v_iadd (v := (i0 : Int) + 6) rfl (by omega) ?_
    refine v_scr (j := i0 + 6) rfl (by omega) (by omega) hL hx6 ?_
    refine q_aload_n rfl rfl ?_
    refine q_iload rfl rfl ?_
    refine v_bip rfl (by decide) ?_
    refine v_iadd (v := (i0 : Int) + 7) rfl (by omega) ?_
    refine v_scr (j := i0 + 7) rfl (by omega) (by omega) hL hx7 ?_
    refine v_cv rfl rfl rfl rfl (by decide) ⟨⟨rfl, rfl⟩, by decide, rfl⟩ (Nat.le_of_ble_eq_true rfl) (Nat.le_of_ble_eq_true rfl) (s_217 (a1 := x1) (a2 := x2) (a3 := x3) (a4 := x4) (a5 := x5) (a6 := x6) (a7 := x7) hI_2 (show (-2147483648) ≤ x1 ∧ x1 ≤ 2147483647 from by omega) (show (-2147483648) ≤ x2 ∧ x2 ≤ 2147483647 from by omega) (show (-2147483648) ≤ x3 ∧ x3 ≤ 2147483647 from by omega) (show (-2147483648) ≤ x4 ∧ x4 ≤ 2147483647 from by omega) (show (-2147483648) ≤ x5 ∧ x5 ≤ 2147483647 from by omega) (show (-2147483648) ≤ x6 ∧ x6 ≤ 2147483647 from by omega) (show (-2147483648) ≤ x7 ∧ x7 ≤ 2147483647 from by omega) (fun c_8 y_11 hI_9 hF_10 hy_11 => ?_))
    refine bk_inl ?_
    refine q_istore rfl (by decide) ?_
    refine q_goto (t := 1844) rfl (by decide) ?_
    refine Wp_ls [(4, vi (i0 : Int)), (3, .ref 67), (2, .ref 41), (1, .ref 0), (0, .ref a_SC)] (lsub_cons rfl (lsub_cons rfl (lsub_cons rfl (lsub_cons rfl (lsub_cons rfl lsub_nil))))) ?_
    have h_12 := ir_1_3 hI
    have kn_13 : Hid (c_1 1 3 = c 1 3) := hF_3 1 3 (fun q => q.elim (fun h => absurd h.1 (nn rfl)) (fun q => q.elim (fun h => absurd h (pn hP rfl rfl)) (fun h => absurd h (pn hP rfl rfl))))
    have kn_14 : Hid (c_8 1 3 = c 1 3) := (hF_10 1 3 (fun q => q.elim (fun h => absurd h.1 (nn rfl)) (fun q => q.elim (fun h => absurd h (nn rfl)) (fun q => q.elim (fun h => absurd h (nn rfl)) (fun h => absurd h (nn rfl)))))).trans (hid kn_13)
    have h_15 : c_8 1 3 = c 1 3 := (hid kn_14)
    have h_16 := ir_41_2 hI
    have kn_17 : Hid (c_1 41 2 = c 41 2) := hF_3 41 2 (fun q => q.elim (fun h => absurd h.1 (nn rfl)) (fun q => q.elim (fun h => absurd h (pn hP rfl rfl)) (fun h => absurd h (pn hP rfl rfl))))
    have kn_18 : Hid (c_8 41 2 = c 41 2) := (hF_10 41 2 (fun q => q.elim (fun h => absurd h.2 (ni rfl)) (fun q => q.elim (fun h => absurd h (nn rfl)) (fun q => q.elim (fun h => absurd h (nn rfl)) (fun h => absurd h (nn rfl)))))).trans (hid kn_17)
    have h_19 : c_8 41 2 = c 41 2 := (hid kn_18)
    exact K P Q c_8 1 (by decide) hI_9 ⟨by omega, ub_fr hU (fun j => (hF_10 2 j (fun q => q.elim (fun h => absurd h.1 (nn rfl)) (fun q => q.elim (fun h => absurd h (nn rfl)) (fun q => q.elim (fun h => absurd h (nn rfl)) (fun h => absurd h (nn rfl)))))).trans (hF_3 2 j (fun q => q.elim (fun h => absurd h.1 (nn rfl)) (fun q => q.elim (fun h => absurd h (pn hP rfl rfl)) (fun h => absurd h (pn hP rfl rfl)))))) (fun j => (hF_10 43 j (fun q => q.elim (fun h => absurd h.1 (nn rfl)) (fun q => q.elim (fun h => absurd h (nn rfl)) (fun q => q.elim (fun h => absurd h (nn rfl)) (fun h => absurd h (nn rfl)))))).trans (hF_3 43 j (fun q => q.elim (fun h => absurd h.1 (nn rfl)) (fun q => q.elim (fun h => absurd h (pn hP rfl rfl)) (fun h => absurd h (pn hP rfl rfl))))))⟩
  refine bk_inl ?_
  refine v_i2l rfl (by omega) ?_
  refine v_ls rfl rfl (by decide) (by decide) (by decide) ?_
  refine q_goto (t := 27) rfl (by decide) ?_
  refine q_iconst rfl ?_
  refine q_iret rfl rfl ?_
  refine bk_inl ?_
  refine q_istore rfl (by decide) ?_
  refine q_aload_n rfl rfl ?_
  refine q_aload_n rfl rfl ?_
  refine q_iload rfl rfl ?_
  refine q_iconst rfl ?_
  refine v_iadd (v := (i0 : Int) + 1) rfl (by omega) ?_
  refine v_scr (j := i0 + 1) rfl (by omega) (by omega) hL hx1 ?_
  refine q_aload_n rfl rfl ?_
  refine q_iload rfl rfl ?_
  refine q_iconst rfl ?_
  refine v_iadd (v := (i0 : Int) + 2) rfl (by omega) ?_
  refine v_scr (j := i0 + 2) rfl (by omega) (by omega) hL hx2 ?_
  refine q_aload_n rfl rfl ?_
  refine q_iload rfl rfl ?_
  refine q_iconst rfl ?_
  refine v_iadd (v := (i0 : Int) + 3) rfl (by omega) ?_
  refine v_scr (j := i0 + 3) rfl (by omega) (by omega) hL hx3 ?_
  refine q_aload_n rfl rfl ?_
  refine q_iload rfl rfl ?_
  refine q_iconst rfl ?_
  refine v_iadd (v := (i0 : Int) + 4) rfl (by omega) ?_
  refine v_scr (j := i0 + 4) rfl (by omega) (by omega) hL hx4 ?_
  refine q_aload_n rfl rfl ?_
  refine q_iload rfl rfl ?_
  refine q_iconst rfl ?_
  refine v_iadd (v := (i0 : Int) + 5) rfl (by omega) ?_
  refine v_scr (j := i0 + 5) rfl (by omega) (by omega) hL hx5 ?_
  refine q_aload_n rfl rfl ?_
  refine q_iload rfl rfl ?_
  refine v_bip rfl (by decide) ?_
  refine v_iadd (v := (i0 : Int) + 6) rfl (by omega) ?_
  refine v_scr (j := i0 + 6) rfl (by omega) (by omega) hL hx6 ?_
  refine q_aload_n rfl rfl ?_
  refine q_iload rfl rfl ?_
  refine v_bip rfl (by decide) ?_
  refine v_iadd (v := (i0 : Int) + 7) rfl (by omega) ?_
  refine v_scr (j := i0 + 7) rfl (by omega) (by omega) hL hx7 ?_
  have hI_20 := iw_lx (a := 67) (j := 0) (v := y_7) hI_5 (by omega)
  refine v_cv rfl rfl rfl rfl (by decide) ⟨⟨rfl, rfl⟩, by decide, rfl⟩ (Nat.le_of_ble_eq_true rfl) (Nat.le_of_ble_eq_true rfl) (s_217 (a1 := x1) (a2 := x2) (a3 := x3) (a4 := x4) (a5 := x5) (a6 := x6) (a7 := x7) hI_20 (show (-2147483648) ≤ x1 ∧ x1 ≤ 2147483647 from by omega) (show (-2147483648) ≤ x2 ∧ x2 ≤ 2147483647 from by omega) (show (-2147483648) ≤ x3 ∧ x3 ≤ 2147483647 from by omega) (show (-2147483648) ≤ x4 ∧ x4 ≤ 2147483647 from by omega) (show (-2147483648) ≤ x5 ∧ x5 ≤ 2147483647 from by omega) (show (-2147483648) ≤ x6 ∧ x6 ≤ 2147483647 from by omega) (show (-2147483648) ≤ x7 ∧ x7 ≤ 2147483647 from by omega) (fun c_21 y_24 hI_22 hF_23 hy_24 => ?_))
  refine bk_inl ?_
  refine q_istore rfl (by decide) ?_
  refine q_goto (t := 1844) rfl (by decide) ?_
  refine Wp_ls [(4, vi (i0 : Int)), (3, .ref 67), (2, .ref 41), (1, .ref 0), (0, .ref a_SC)] (lsub_cons rfl (lsub_cons rfl (lsub_cons rfl (lsub_cons rfl (lsub_cons rfl lsub_nil))))) ?_
  have h_25 := ir_1_3 hI
  have kn_26 : Hid (c_4 1 3 = c 1 3) := hF_6 1 3 (fun q => q.elim (fun h => absurd h.1 (nn rfl)) (fun q => q.elim (fun h => absurd h (pn hP rfl rfl)) (fun h => absurd h (pn hP rfl rfl))))
  have kn_27 : Hid (c_21 1 3 = c 1 3) := (hF_23 1 3 (fun q => q.elim (fun h => absurd h.1 (nn rfl)) (fun q => q.elim (fun h => absurd h (nn rfl)) (fun q => q.elim (fun h => absurd h (nn rfl)) (fun h => absurd h (nn rfl)))))).trans ((up_c (nn rfl)).trans (hid kn_26))
  have h_28 : c_21 1 3 = c 1 3 := (hid kn_27)
  have h_29 := ir_41_2 hI
  have kn_30 : Hid (c_4 41 2 = c 41 2) := hF_6 41 2 (fun q => q.elim (fun h => absurd h.1 (nn rfl)) (fun q => q.elim (fun h => absurd h (pn hP rfl rfl)) (fun h => absurd h (pn hP rfl rfl))))
  have kn_31 : Hid (c_21 41 2 = c 41 2) := (hF_23 41 2 (fun q => q.elim (fun h => absurd h.2 (ni rfl)) (fun q => q.elim (fun h => absurd h (nn rfl)) (fun q => q.elim (fun h => absurd h (nn rfl)) (fun h => absurd h (nn rfl)))))).trans ((up_c (nn rfl)).trans (hid kn_30))
  have h_32 : c_21 41 2 = c 41 2 := (hid kn_31)
  exact K P Q c_21 0 (by decide) hI_22 ⟨by omega, ub_fr hU (fun j => (hF_23 2 j (fun q => q.elim (fun h => absurd h.1 (nn rfl)) (fun q => q.elim (fun h => absurd h (nn rfl)) (fun q => q.elim (fun h => absurd h (nn rfl)) (fun h => absurd h (nn rfl)))))).trans ((up_c (nn rfl)).trans (hF_6 2 j (fun q => q.elim (fun h => absurd h.1 (nn rfl)) (fun q => q.elim (fun h => absurd h (pn hP rfl rfl)) (fun h => absurd h (pn hP rfl rfl))))))) (fun j => (hF_23 43 j (fun q => q.elim (fun h => absurd h.1 (nn rfl)) (fun q => q.elim (fun h => absurd h (nn rfl)) (fun q => q.elim (fun h => absurd h (nn rfl)) (fun h => absurd h (nn rfl)))))).trans ((up_c (nn rfl)).trans (hF_6 43 j (fun q => q.elim (fun h => absurd h.1 (nn rfl)) (fun q => q.elim (fun h => absurd h (pn hP rfl rfl)) (fun h => absurd h (pn hP rfl rfl)))))))⟩

set_option maxRecDepth 100000 in
set_option maxHeartbeats 4000000 in
theorem o_14 {xs : Nat → Int32} {L i0 d nc ns P Q : Nat} {c : ME} {Z : AR → Prop} (hi : i0 + 8 ≤ L) (hL : L ≤ 100000) (hI : Iv 0 (-1) P Q c) (hR : Rq P c) (K : ∀ (P2 Q2 : Nat) (c2 : ME) (e : Nat), e ≤ 1 → Iv 0 (-1) P2 Q2 c2 → (Rq P2 c2) → Wp (a_scr L xs) (d + 90) 296 1844 [(4, vi (i0 : Int)), (3, .ref 67), (2, .ref 41), (1, .ref 0), (0, .ref a_SC)] [] (Wd P2 Q2 P2 P2 c2) (nc + e) (ns + 6 * e) Z) : Wp (a_scr L xs) (d + 90) 296 775 [(4, vi (i0 : Int)), (3, .ref 67), (2, .ref 41), (1, .ref 0), (0, .ref a_SC)] [] (Wd P Q P P c) nc ns Z := by
  obtain ⟨x1, hx1⟩ : ∃ z, (xs (i0 + 1)).toInt = z := ⟨_, rfl⟩
  have x1r := c_rng (xs (i0 + 1))
  rw [hx1] at x1r
  obtain ⟨x2, hx2⟩ : ∃ z, (xs (i0 + 2)).toInt = z := ⟨_, rfl⟩
  have x2r := c_rng (xs (i0 + 2))
  rw [hx2] at x2r
  obtain ⟨x3, hx3⟩ : ∃ z, (xs (i0 + 3)).toInt = z := ⟨_, rfl⟩
  have x3r := c_rng (xs (i0 + 3))
  rw [hx3] at x3r
  obtain ⟨x4, hx4⟩ : ∃ z, (xs (i0 + 4)).toInt = z := ⟨_, rfl⟩
  have x4r := c_rng (xs (i0 + 4))
  rw [hx4] at x4r
  obtain ⟨x5, hx5⟩ : ∃ z, (xs (i0 + 5)).toInt = z := ⟨_, rfl⟩
  have x5r := c_rng (xs (i0 + 5))
  rw [hx5] at x5r
  obtain ⟨x6, hx6⟩ : ∃ z, (xs (i0 + 6)).toInt = z := ⟨_, rfl⟩
  have x6r := c_rng (xs (i0 + 6))
  rw [hx6] at x6r
  obtain ⟨x7, hx7⟩ : ∃ z, (xs (i0 + 7)).toInt = z := ⟨_, rfl⟩
  have x7r := c_rng (xs (i0 + 7))
  rw [hx7] at x7r
  have hT := rl_t hR
  have hU := rl_u hR
  have hP := iv_P hI
  have hQ := iv_Q hI
  refine q_aload_n rfl rfl ?_
  refine q_aload_n rfl rfl ?_
  refine q_iload rfl rfl ?_
  refine q_iconst rfl ?_
  refine v_iadd (v := (i0 : Int) + 1) rfl (by omega) ?_
  refine v_scr (j := i0 + 1) rfl (by omega) (by omega) hL hx1 ?_
  refine q_aload_n rfl rfl ?_
  refine q_iload rfl rfl ?_
  refine q_iconst rfl ?_
  refine v_iadd (v := (i0 : Int) + 2) rfl (by omega) ?_
  refine v_scr (j := i0 + 2) rfl (by omega) (by omega) hL hx2 ?_
  refine q_aload_n rfl rfl ?_
  refine q_iload rfl rfl ?_
  refine q_iconst rfl ?_
  refine v_iadd (v := (i0 : Int) + 3) rfl (by omega) ?_
  refine v_scr (j := i0 + 3) rfl (by omega) (by omega) hL hx3 ?_
  refine q_aload_n rfl rfl ?_
  refine q_call rfl rfl rfl rfl ?_
  refine q_aload rfl rfl ?_
  refine q_iconst rfl ?_
  refine q_aload_n rfl rfl ?_
  refine q_iload_n rfl rfl ?_
  refine q_iload_n rfl rfl ?_
  refine q_iload_n rfl rfl ?_
  refine v_cv rfl rfl rfl rfl (by decide) ⟨⟨rfl, rfl⟩, by decide, rfl⟩ (Nat.le_of_ble_eq_true rfl) (Nat.le_of_ble_eq_true rfl) (s_110 (a1 := x1) (a2 := x2) (a3 := x3) hI (show (-2147483648) ≤ x1 ∧ x1 ≤ 2147483647 from by omega) (show (-2147483648) ≤ x2 ∧ x2 ≤ 2147483647 from by omega) (show (-2147483648) ≤ x3 ∧ x3 ≤ 2147483647 from by omega) (fun c_1 hI_2 hF_3 => ?_) (fun c_4 hI_5 hF_6 => ?_) (fun c_7 y_10 hI_8 hF_9 hy_10 => ?_))
  · skip
    refine bk_thr (z := Int32.ofInt 1) rfl ⟨_, _, rfl⟩ rfl ?_
    refine bk_inl ?_
    refine q_istore rfl (by decide) ?_
    refine q_aload_n rfl rfl ?_
    refine q_aload_n rfl rfl ?_
    refine q_iload rfl rfl ?_
    refine q_iconst rfl ?_
    refine v_iadd (v := (i0 : Int) + 1) rfl (by omega) ?_
    refine v_scr (j := i0 + 1) rfl (by omega) (by omega) hL hx1 ?_
    refine q_aload_n rfl rfl ?_
    refine q_iload rfl rfl ?_
    refine q_iconst rfl ?_
    refine v_iadd (v := (i0 : Int) + 2) rfl (by omega) ?_
    refine v_scr (j := i0 + 2) rfl (by omega) (by omega) hL hx2 ?_
    refine q_aload_n rfl rfl ?_
    refine q_iload rfl rfl ?_
    refine q_iconst rfl ?_
    refine v_iadd (v := (i0 : Int) + 3) rfl (by omega) ?_
    refine v_scr (j := i0 + 3) rfl (by omega) (by omega) hL hx3 ?_
    refine v_cv rfl rfl rfl rfl (by decide) ⟨⟨rfl, rfl⟩, by decide, rfl⟩ (Nat.le_of_ble_eq_true rfl) (Nat.le_of_ble_eq_true rfl) (s_218 (a1 := x1) (a2 := x2) (a3 := x3) hI_2 (show (-2147483648) ≤ x1 ∧ x1 ≤ 2147483647 from by omega) (show (-2147483648) ≤ x2 ∧ x2 ≤ 2147483647 from by omega) (show (-2147483648) ≤ x3 ∧ x3 ≤ 2147483647 from by omega) (fun c_11 y_14 hI_12 hF_13 hy_14 => ?_))
    refine bk_inl ?_
    refine q_istore rfl (by decide) ?_
    refine q_goto (t := 1844) rfl (by decide) ?_
    refine Wp_ls [(4, vi (i0 : Int)), (3, .ref 67), (2, .ref 41), (1, .ref 0), (0, .ref a_SC)] (lsub_cons rfl (lsub_cons rfl (lsub_cons rfl (lsub_cons rfl (lsub_cons rfl lsub_nil))))) ?_
    have h_15 := ir_1_3 hI
    have kn_16 : Hid (c_1 1 3 = c 1 3) := hF_3 1 3 (fun q => q.elim (fun h => absurd h.1 (nn rfl)) (fun q => q.elim (fun h => absurd h.1 (nn rfl)) (fun h => absurd h (nn rfl))))
    have kn_17 : Hid (c_11 1 3 = c 1 3) := (hF_13 1 3 (fun q => q.elim (fun h => absurd h.1 (nn rfl)) (fun q => q.elim (fun h => absurd h (nn rfl)) (fun h => absurd h (nn rfl))))).trans (hid kn_16)
    have h_18 : c_11 1 3 = c 1 3 := (hid kn_17)
    have h_19 := ir_41_2 hI
    have kn_20 : Hid (c_1 41 2 = c 41 2) := hF_3 41 2 (fun q => q.elim (fun h => absurd h.1 (nn rfl)) (fun q => q.elim (fun h => absurd h.1 (nn rfl)) (fun h => absurd h (nn rfl))))
    have kn_21 : Hid (c_11 41 2 = c 41 2) := (hF_13 41 2 (fun q => q.elim (fun h => absurd h.2 (ni rfl)) (fun q => q.elim (fun h => absurd h (nn rfl)) (fun h => absurd h (nn rfl))))).trans (hid kn_20)
    have h_22 : c_11 41 2 = c 41 2 := (hid kn_21)
    exact K P Q c_11 1 (by decide) hI_12 ⟨by omega, ub_fr hU (fun j => (hF_13 2 j (fun q => q.elim (fun h => absurd h.1 (nn rfl)) (fun q => q.elim (fun h => absurd h (nn rfl)) (fun h => absurd h (nn rfl))))).trans (hF_3 2 j (fun q => q.elim (fun h => absurd h.1 (nn rfl)) (fun q => q.elim (fun h => absurd h.1 (nn rfl)) (fun h => absurd h (nn rfl)))))) (fun j => (hF_13 43 j (fun q => q.elim (fun h => absurd h.1 (nn rfl)) (fun q => q.elim (fun h => absurd h (nn rfl)) (fun h => absurd h (nn rfl))))).trans (hF_3 43 j (fun q => q.elim (fun h => absurd h.1 (nn rfl)) (fun q => q.elim (fun h => absurd h.1 (nn rfl)) (fun h => absurd h (nn rfl))))))⟩
  · skip
    refine bk_thr (z := Int32.ofInt 2) rfl ⟨_, _, rfl⟩ rfl ?_
    refine bk_inl ?_
    refine q_istore rfl (by decide) ?_
    refine q_aload_n rfl rfl ?_
    refine q_aload_n rfl rfl ?_
    refine q_iload rfl rfl ?_
    refine q_iconst rfl ?_
    refine v_iadd (v := (i0 : Int) + 1) rfl (by omega) ?_
    refine v_scr (j := i0 + 1) rfl (by omega) (by omega) hL hx1 ?_
    refine q_aload_n rfl rfl ?_
    refine q_iload rfl rfl ?_
    refine q_iconst rfl ?_
    refine v_iadd (v := (i0 : Int) + 2) rfl (by omega) ?_
    refine v_scr (j := i0 + 2) rfl (by omega) (by omega) hL hx2 ?_
    refine q_aload_n rfl rfl ?_
    refine q_iload rfl rfl ?_
    refine q_iconst rfl ?_
    refine v_iadd (v := (i0 : Int) + 3) rfl (by omega) ?_
    refine v_scr (j := i0 + 3) rfl (by omega) (by omega) hL hx3 ?_
    refine v_cv rfl rfl rfl rfl (by decide) ⟨⟨rfl, rfl⟩, by decide, rfl⟩ (Nat.le_of_ble_eq_true rfl) (Nat.le_of_ble_eq_true rfl) (s_218 (a1 := x1) (a2 := x2) (a3 := x3) hI_5 (show (-2147483648) ≤ x1 ∧ x1 ≤ 2147483647 from by omega) (show (-2147483648) ≤ x2 ∧ x2 ≤ 2147483647 from by omega) (show (-2147483648) ≤ x3 ∧ x3 ≤ 2147483647 from by omega) (fun c_23 y_26 hI_24 hF_25 hy_26 => ?_))
    refine bk_inl ?_
    refine q_istore rfl (by decide) ?_
    refine q_goto (t := 1844) rfl (by decide) ?_
    refine Wp_ls [(4, vi (i0 : Int)), (3, .ref 67), (2, .ref 41), (1, .ref 0), (0, .ref a_SC)] (lsub_cons rfl (lsub_cons rfl (lsub_cons rfl (lsub_cons rfl (lsub_cons rfl lsub_nil))))) ?_
    have h_27 := ir_1_3 hI
    have kn_28 : Hid (c_4 1 3 = c 1 3) := hF_6 1 3 (fun q => q.elim (fun h => absurd h.1 (nn rfl)) (fun q => q.elim (fun h => absurd h.1 (nn rfl)) (fun h => absurd h (nn rfl))))
    have kn_29 : Hid (c_23 1 3 = c 1 3) := (hF_25 1 3 (fun q => q.elim (fun h => absurd h.1 (nn rfl)) (fun q => q.elim (fun h => absurd h (nn rfl)) (fun h => absurd h (nn rfl))))).trans (hid kn_28)
    have h_30 : c_23 1 3 = c 1 3 := (hid kn_29)
    have h_31 := ir_41_2 hI
    have kn_32 : Hid (c_4 41 2 = c 41 2) := hF_6 41 2 (fun q => q.elim (fun h => absurd h.1 (nn rfl)) (fun q => q.elim (fun h => absurd h.1 (nn rfl)) (fun h => absurd h (nn rfl))))
    have kn_33 : Hid (c_23 41 2 = c 41 2) := (hF_25 41 2 (fun q => q.elim (fun h => absurd h.2 (ni rfl)) (fun q => q.elim (fun h => absurd h (nn rfl)) (fun h => absurd h (nn rfl))))).trans (hid kn_32)
    have h_34 : c_23 41 2 = c 41 2 := (hid kn_33)
    exact K P Q c_23 1 (by decide) hI_24 ⟨by omega, ub_fr hU (fun j => (hF_25 2 j (fun q => q.elim (fun h => absurd h.1 (nn rfl)) (fun q => q.elim (fun h => absurd h (nn rfl)) (fun h => absurd h (nn rfl))))).trans (hF_6 2 j (fun q => q.elim (fun h => absurd h.1 (nn rfl)) (fun q => q.elim (fun h => absurd h.1 (nn rfl)) (fun h => absurd h (nn rfl)))))) (fun j => (hF_25 43 j (fun q => q.elim (fun h => absurd h.1 (nn rfl)) (fun q => q.elim (fun h => absurd h (nn rfl)) (fun h => absurd h (nn rfl))))).trans (hF_6 43 j (fun q => q.elim (fun h => absurd h.1 (nn rfl)) (fun q => q.elim (fun h => absurd h.1 (nn rfl)) (fun h => absurd h (nn rfl))))))⟩
  refine bk_inl ?_
  refine v_i2l rfl (by omega) ?_
  refine v_ls rfl rfl (by decide) (by decide) (by decide) ?_
  refine q_goto (t := 23) rfl (by decide) ?_
  refine q_iconst rfl ?_
  refine q_iret rfl rfl ?_
  refine bk_inl ?_
  refine q_istore rfl (by decide) ?_
  refine q_aload_n rfl rfl ?_
  refine q_aload_n rfl rfl ?_
  refine q_iload rfl rfl ?_
  refine q_iconst rfl ?_
  refine v_iadd (v := (i0 : Int) + 1) rfl (by omega) ?_
  refine v_scr (j := i0 + 1) rfl (by omega) (by omega) hL hx1 ?_
  refine q_aload_n rfl rfl ?_
  refine q_iload rfl rfl ?_
  refine q_iconst rfl ?_
  refine v_iadd (v := (i0 : Int) + 2) rfl (by omega) ?_
  refine v_scr (j := i0 + 2) rfl (by omega) (by omega) hL hx2 ?_
  refine q_aload_n rfl rfl ?_
  refine q_iload rfl rfl ?_
  refine q_iconst rfl ?_
  refine v_iadd (v := (i0 : Int) + 3) rfl (by omega) ?_
  refine v_scr (j := i0 + 3) rfl (by omega) (by omega) hL hx3 ?_
  have hI_35 := iw_lx (a := 67) (j := 0) (v := y_10) hI_8 (by omega)
  refine v_cv rfl rfl rfl rfl (by decide) ⟨⟨rfl, rfl⟩, by decide, rfl⟩ (Nat.le_of_ble_eq_true rfl) (Nat.le_of_ble_eq_true rfl) (s_218 (a1 := x1) (a2 := x2) (a3 := x3) hI_35 (show (-2147483648) ≤ x1 ∧ x1 ≤ 2147483647 from by omega) (show (-2147483648) ≤ x2 ∧ x2 ≤ 2147483647 from by omega) (show (-2147483648) ≤ x3 ∧ x3 ≤ 2147483647 from by omega) (fun c_36 y_39 hI_37 hF_38 hy_39 => ?_))
  refine bk_inl ?_
  refine q_istore rfl (by decide) ?_
  refine q_goto (t := 1844) rfl (by decide) ?_
  refine Wp_ls [(4, vi (i0 : Int)), (3, .ref 67), (2, .ref 41), (1, .ref 0), (0, .ref a_SC)] (lsub_cons rfl (lsub_cons rfl (lsub_cons rfl (lsub_cons rfl (lsub_cons rfl lsub_nil))))) ?_
  have h_40 := ir_1_3 hI
  have kn_41 : Hid (c_7 1 3 = c 1 3) := hF_9 1 3 (fun q => q.elim (fun h => absurd h.1 (nn rfl)) (fun q => q.elim (fun h => absurd h.1 (nn rfl)) (fun h => absurd h (nn rfl))))
  have kn_42 : Hid (c_36 1 3 = c 1 3) := (hF_38 1 3 (fun q => q.elim (fun h => absurd h.1 (nn rfl)) (fun q => q.elim (fun h => absurd h (nn rfl)) (fun h => absurd h (nn rfl))))).trans ((up_c (nn rfl)).trans (hid kn_41))
  have h_43 : c_36 1 3 = c 1 3 := (hid kn_42)
  have h_44 := ir_41_2 hI
  have kn_45 : Hid (c_7 41 2 = c 41 2) := hF_9 41 2 (fun q => q.elim (fun h => absurd h.1 (nn rfl)) (fun q => q.elim (fun h => absurd h.1 (nn rfl)) (fun h => absurd h (nn rfl))))
  have kn_46 : Hid (c_36 41 2 = c 41 2) := (hF_38 41 2 (fun q => q.elim (fun h => absurd h.2 (ni rfl)) (fun q => q.elim (fun h => absurd h (nn rfl)) (fun h => absurd h (nn rfl))))).trans ((up_c (nn rfl)).trans (hid kn_45))
  have h_47 : c_36 41 2 = c 41 2 := (hid kn_46)
  exact K P Q c_36 0 (by decide) hI_37 ⟨by omega, ub_fr hU (fun j => (hF_38 2 j (fun q => q.elim (fun h => absurd h.1 (nn rfl)) (fun q => q.elim (fun h => absurd h (nn rfl)) (fun h => absurd h (nn rfl))))).trans ((up_c (nn rfl)).trans (hF_9 2 j (fun q => q.elim (fun h => absurd h.1 (nn rfl)) (fun q => q.elim (fun h => absurd h.1 (nn rfl)) (fun h => absurd h (nn rfl))))))) (fun j => (hF_38 43 j (fun q => q.elim (fun h => absurd h.1 (nn rfl)) (fun q => q.elim (fun h => absurd h (nn rfl)) (fun h => absurd h (nn rfl))))).trans ((up_c (nn rfl)).trans (hF_9 43 j (fun q => q.elim (fun h => absurd h.1 (nn rfl)) (fun q => q.elim (fun h => absurd h.1 (nn rfl)) (fun h => absurd h (nn rfl)))))))⟩

set_option maxRecDepth 100000 in
set_option maxHeartbeats 4000000 in
theorem o_15 {xs : Nat → Int32} {L i0 d nc ns P Q : Nat} {c : ME} {Z : AR → Prop} (hi : i0 + 8 ≤ L) (hL : L ≤ 100000) (hI : Iv 0 (-1) P Q c) (hR : Rq P c) (K : ∀ (P2 Q2 : Nat) (c2 : ME) (e : Nat), e ≤ 1 → Iv 0 (-1) P2 Q2 c2 → (Rq P2 c2) → Wp (a_scr L xs) (d + 90) 296 1844 [(4, vi (i0 : Int)), (3, .ref 67), (2, .ref 41), (1, .ref 0), (0, .ref a_SC)] [] (Wd P2 Q2 P2 P2 c2) (nc + e) (ns + 6 * e) Z) : Wp (a_scr L xs) (d + 90) 296 827 [(4, vi (i0 : Int)), (3, .ref 67), (2, .ref 41), (1, .ref 0), (0, .ref a_SC)] [] (Wd P Q P P c) nc ns Z := by
  obtain ⟨x1, hx1⟩ : ∃ z, (xs (i0 + 1)).toInt = z := ⟨_, rfl⟩
  have x1r := c_rng (xs (i0 + 1))
  rw [hx1] at x1r
  obtain ⟨x2, hx2⟩ : ∃ z, (xs (i0 + 2)).toInt = z := ⟨_, rfl⟩
  have x2r := c_rng (xs (i0 + 2))
  rw [hx2] at x2r
  obtain ⟨x3, hx3⟩ : ∃ z, (xs (i0 + 3)).toInt = z := ⟨_, rfl⟩
  have x3r := c_rng (xs (i0 + 3))
  rw [hx3] at x3r
  obtain ⟨x4, hx4⟩ : ∃ z, (xs (i0 + 4)).toInt = z := ⟨_, rfl⟩
  have x4r := c_rng (xs (i0 + 4))
  rw [hx4] at x4r
  obtain ⟨x5, hx5⟩ : ∃ z, (xs (i0 + 5)).toInt = z := ⟨_, rfl⟩
  have x5r := c_rng (xs (i0 + 5))
  rw [hx5] at x5r
  obtain ⟨x6, hx6⟩ : ∃ z, (xs (i0 + 6)).toInt = z := ⟨_, rfl⟩
  have x6r := c_rng (xs (i0 + 6))
  rw [hx6] at x6r
  obtain ⟨x7, hx7⟩ : ∃ z, (xs (i0 + 7)).toInt = z := ⟨_, rfl⟩
  have x7r := c_rng (xs (i0 + 7))
  rw [hx7] at x7r
  have hT := rl_t hR
  have hU := rl_u hR
  have hP := iv_P hI
  have hQ := iv_Q hI
  refine q_aload_n rfl rfl ?_
  refine q_aload_n rfl rfl ?_
  refine q_iload rfl rfl ?_
  refine q_iconst rfl ?_
  refine v_iadd (v := (i0 : Int) + 1) rfl (by omega) ?_
  refine v_scr (j := i0 + 1) rfl (by omega) (by omega) hL hx1 ?_
  refine q_aload_n rfl rfl ?_
  refine q_iload rfl rfl ?_
  refine q_iconst rfl ?_
  refine v_iadd (v := (i0 : Int) + 2) rfl (by omega) ?_
  refine v_scr (j := i0 + 2) rfl (by omega) (by omega) hL hx2 ?_
  refine q_aload_n rfl rfl ?_
  refine q_iload rfl rfl ?_
  refine q_iconst rfl ?_
  refine v_iadd (v := (i0 : Int) + 3) rfl (by omega) ?_
  refine v_scr (j := i0 + 3) rfl (by omega) (by omega) hL hx3 ?_
  refine q_aload_n rfl rfl ?_
  refine q_call rfl rfl rfl rfl ?_
  refine q_aload rfl rfl ?_
  refine q_iconst rfl ?_
  refine q_aload_n rfl rfl ?_
  refine q_iload_n rfl rfl ?_
  refine q_iload_n rfl rfl ?_
  refine q_iload_n rfl rfl ?_
  refine v_cv rfl rfl rfl rfl (by decide) ⟨⟨rfl, rfl⟩, by decide, rfl⟩ (Nat.le_of_ble_eq_true rfl) (Nat.le_of_ble_eq_true rfl) (s_111 (a1 := x1) (a2 := x2) (a3 := x3) hI (show (-2147483648) ≤ x1 ∧ x1 ≤ 2147483647 from by omega) (show (-2147483648) ≤ x2 ∧ x2 ≤ 2147483647 from by omega) (show (-2147483648) ≤ x3 ∧ x3 ≤ 2147483647 from by omega) (fun c_1 hI_2 hF_3 => ?_) (fun c_4 hI_5 hF_6 => ?_) (fun c_7 y_10 hI_8 hF_9 hy_10 => ?_))
  · skip
    refine bk_thr (z := Int32.ofInt 1) rfl ⟨_, _, rfl⟩ rfl ?_
    refine bk_inl ?_
    refine q_istore rfl (by decide) ?_
    refine q_aload_n rfl rfl ?_
    refine q_aload_n rfl rfl ?_
    refine q_iload rfl rfl ?_
    refine q_iconst rfl ?_
    refine v_iadd (v := (i0 : Int) + 1) rfl (by omega) ?_
    refine v_scr (j := i0 + 1) rfl (by omega) (by omega) hL hx1 ?_
    refine q_aload_n rfl rfl ?_
    refine q_iload rfl rfl ?_
    refine q_iconst rfl ?_
    refine v_iadd (v := (i0 : Int) + 2) rfl (by omega) ?_
    refine v_scr (j := i0 + 2) rfl (by omega) (by omega) hL hx2 ?_
    refine q_aload_n rfl rfl ?_
    refine q_iload rfl rfl ?_
    refine q_iconst rfl ?_
    refine v_iadd (v := (i0 : Int) + 3) rfl (by omega) ?_
    refine v_scr (j := i0 + 3) rfl (by omega) (by omega) hL hx3 ?_
    refine v_cv rfl rfl rfl rfl (by decide) ⟨⟨rfl, rfl⟩, by decide, rfl⟩ (Nat.le_of_ble_eq_true rfl) (Nat.le_of_ble_eq_true rfl) (s_219 (a1 := x1) (a2 := x2) (a3 := x3) hI_2 (show (-2147483648) ≤ x1 ∧ x1 ≤ 2147483647 from by omega) (show (-2147483648) ≤ x2 ∧ x2 ≤ 2147483647 from by omega) (show (-2147483648) ≤ x3 ∧ x3 ≤ 2147483647 from by omega) (fun c_11 y_14 hI_12 hF_13 hy_14 => ?_))
    refine bk_inl ?_
    refine q_istore rfl (by decide) ?_
    refine q_goto (t := 1844) rfl (by decide) ?_
    refine Wp_ls [(4, vi (i0 : Int)), (3, .ref 67), (2, .ref 41), (1, .ref 0), (0, .ref a_SC)] (lsub_cons rfl (lsub_cons rfl (lsub_cons rfl (lsub_cons rfl (lsub_cons rfl lsub_nil))))) ?_
    have h_15 := ir_1_3 hI
    have kn_16 : Hid (c_1 1 3 = c 1 3) := hF_3 1 3 (fun q => q.elim (fun h => absurd h.1 (nn rfl)) (fun h => absurd h.1 (nn rfl)))
    have kn_17 : Hid (c_11 1 3 = c 1 3) := (hF_13 1 3 (fun q => q.elim (fun h => absurd h.1 (nn rfl)) (fun q => q.elim (fun h => absurd h (nn rfl)) (fun h => absurd h (nn rfl))))).trans (hid kn_16)
    have h_18 : c_11 1 3 = c 1 3 := (hid kn_17)
    have h_19 := ir_41_2 hI
    have kn_20 : Hid (c_1 41 2 = c 41 2) := hF_3 41 2 (fun q => q.elim (fun h => absurd h.1 (nn rfl)) (fun h => absurd h.1 (nn rfl)))
    have kn_21 : Hid (c_11 41 2 = c 41 2) := (hF_13 41 2 (fun q => q.elim (fun h => absurd h.2 (ni rfl)) (fun q => q.elim (fun h => absurd h (nn rfl)) (fun h => absurd h (nn rfl))))).trans (hid kn_20)
    have h_22 : c_11 41 2 = c 41 2 := (hid kn_21)
    exact K P Q c_11 1 (by decide) hI_12 ⟨by omega, ub_fr hU (fun j => (hF_13 2 j (fun q => q.elim (fun h => absurd h.1 (nn rfl)) (fun q => q.elim (fun h => absurd h (nn rfl)) (fun h => absurd h (nn rfl))))).trans (hF_3 2 j (fun q => q.elim (fun h => absurd h.1 (nn rfl)) (fun h => absurd h.1 (nn rfl))))) (fun j => (hF_13 43 j (fun q => q.elim (fun h => absurd h.1 (nn rfl)) (fun q => q.elim (fun h => absurd h (nn rfl)) (fun h => absurd h (nn rfl))))).trans (hF_3 43 j (fun q => q.elim (fun h => absurd h.1 (nn rfl)) (fun h => absurd h.1 (nn rfl)))))⟩
  · skip
    refine bk_thr (z := Int32.ofInt 2) rfl ⟨_, _, rfl⟩ rfl ?_
    refine bk_inl ?_
    refine q_istore rfl (by decide) ?_
    refine q_aload_n rfl rfl ?_
    refine q_aload_n rfl rfl ?_
    refine q_iload rfl rfl ?_
    refine q_iconst rfl ?_
    refine v_iadd (v := (i0 : Int) + 1) rfl (by omega) ?_
    refine v_scr (j := i0 + 1) rfl (by omega) (by omega) hL hx1 ?_
    refine q_aload_n rfl rfl ?_
    refine q_iload rfl rfl ?_
    refine q_iconst rfl ?_
    refine v_iadd (v := (i0 : Int) + 2) rfl (by omega) ?_
    refine v_scr (j := i0 + 2) rfl (by omega) (by omega) hL hx2 ?_
    refine q_aload_n rfl rfl ?_
    refine q_iload rfl rfl ?_
    refine q_iconst rfl ?_
    refine v_iadd (v := (i0 : Int) + 3) rfl (by omega) ?_
    refine v_scr (j := i0 + 3) rfl (by omega) (by omega) hL hx3 ?_
    refine v_cv rfl rfl rfl rfl (by decide) ⟨⟨rfl, rfl⟩, by decide, rfl⟩ (Nat.le_of_ble_eq_true rfl) (Nat.le_of_ble_eq_true rfl) (s_219 (a1 := x1) (a2 := x2) (a3 := x3) hI_5 (show (-2147483648) ≤ x1 ∧ x1 ≤ 2147483647 from by omega) (show (-2147483648) ≤ x2 ∧ x2 ≤ 2147483647 from by omega) (show (-2147483648) ≤ x3 ∧ x3 ≤ 2147483647 from by omega) (fun c_23 y_26 hI_24 hF_25 hy_26 => ?_))
    refine bk_inl ?_
    refine q_istore rfl (by decide) ?_
    refine q_goto (t := 1844) rfl (by decide) ?_
    refine Wp_ls [(4, vi (i0 : Int)), (3, .ref 67), (2, .ref 41), (1, .ref 0), (0, .ref a_SC)] (lsub_cons rfl (lsub_cons rfl (lsub_cons rfl (lsub_cons rfl (lsub_cons rfl lsub_nil))))) ?_
    have h_27 := ir_1_3 hI
    have kn_28 : Hid (c_4 1 3 = c 1 3) := hF_6 1 3 (fun q => q.elim (fun h => absurd h.1 (nn rfl)) (fun h => absurd h.1 (nn rfl)))
    have kn_29 : Hid (c_23 1 3 = c 1 3) := (hF_25 1 3 (fun q => q.elim (fun h => absurd h.1 (nn rfl)) (fun q => q.elim (fun h => absurd h (nn rfl)) (fun h => absurd h (nn rfl))))).trans (hid kn_28)
    have h_30 : c_23 1 3 = c 1 3 := (hid kn_29)
    have h_31 := ir_41_2 hI
    have kn_32 : Hid (c_4 41 2 = c 41 2) := hF_6 41 2 (fun q => q.elim (fun h => absurd h.1 (nn rfl)) (fun h => absurd h.1 (nn rfl)))
    have kn_33 : Hid (c_23 41 2 = c 41 2) := (hF_25 41 2 (fun q => q.elim (fun h => absurd h.2 (ni rfl)) (fun q => q.elim (fun h => absurd h (nn rfl)) (fun h => absurd h (nn rfl))))).trans (hid kn_32)
    have h_34 : c_23 41 2 = c 41 2 := (hid kn_33)
    exact K P Q c_23 1 (by decide) hI_24 ⟨by omega, ub_fr hU (fun j => (hF_25 2 j (fun q => q.elim (fun h => absurd h.1 (nn rfl)) (fun q => q.elim (fun h => absurd h (nn rfl)) (fun h => absurd h (nn rfl))))).trans (hF_6 2 j (fun q => q.elim (fun h => absurd h.1 (nn rfl)) (fun h => absurd h.1 (nn rfl))))) (fun j => (hF_25 43 j (fun q => q.elim (fun h => absurd h.1 (nn rfl)) (fun q => q.elim (fun h => absurd h (nn rfl)) (fun h => absurd h (nn rfl))))).trans (hF_6 43 j (fun q => q.elim (fun h => absurd h.1 (nn rfl)) (fun h => absurd h.1 (nn rfl)))))⟩
  refine bk_inl ?_
  refine v_i2l rfl (by omega) ?_
  refine v_ls rfl rfl (by decide) (by decide) (by decide) ?_
  refine q_goto (t := 23) rfl (by decide) ?_
  refine q_iconst rfl ?_
  refine q_iret rfl rfl ?_
  refine bk_inl ?_
  refine q_istore rfl (by decide) ?_
  refine q_aload_n rfl rfl ?_
  refine q_aload_n rfl rfl ?_
  refine q_iload rfl rfl ?_
  refine q_iconst rfl ?_
  refine v_iadd (v := (i0 : Int) + 1) rfl (by omega) ?_
  refine v_scr (j := i0 + 1) rfl (by omega) (by omega) hL hx1 ?_
  refine q_aload_n rfl rfl ?_
  refine q_iload rfl rfl ?_
  refine q_iconst rfl ?_
  refine v_iadd (v := (i0 : Int) + 2) rfl (by omega) ?_
  refine v_scr (j := i0 + 2) rfl (by omega) (by omega) hL hx2 ?_
  refine q_aload_n rfl rfl ?_
  refine q_iload rfl rfl ?_
  refine q_iconst rfl ?_
  refine v_iadd (v := (i0 : Int) + 3) rfl (by omega) ?_
  refine v_scr (j := i0 + 3) rfl (by omega) (by omega) hL hx3 ?_
  have hI_35 := iw_lx (a := 67) (j := 0) (v := y_10) hI_8 (by omega)
  refine v_cv rfl rfl rfl rfl (by decide) ⟨⟨rfl, rfl⟩, by decide, rfl⟩ (Nat.le_of_ble_eq_true rfl) (Nat.le_of_ble_eq_true rfl) (s_219 (a1 := x1) (a2 := x2) (a3 := x3) hI_35 (show (-2147483648) ≤ x1 ∧ x1 ≤ 2147483647 from by omega) (show (-2147483648) ≤ x2 ∧ x2 ≤ 2147483647 from by omega) (show (-2147483648) ≤ x3 ∧ x3 ≤ 2147483647 from by omega) (fun c_36 y_39 hI_37 hF_38 hy_39 => ?_))
  refine bk_inl ?_
  refine q_istore rfl (by decide) ?_
  refine q_goto (t := 1844) rfl (by decide) ?_
  refine Wp_ls [(4, vi (i0 : Int)), (3, .ref 67), (2, .ref 41), (1, .ref 0), (0, .ref a_SC)] (lsub_cons rfl (lsub_cons rfl (lsub_cons rfl (lsub_cons rfl (lsub_cons rfl lsub_nil))))) ?_
  have h_40 := ir_1_3 hI
  have kn_41 : Hid (c_7 1 3 = c 1 3) := hF_9 1 3 (fun q => q.elim (fun h => absurd h.1 (nn rfl)) (fun h => absurd h.1 (nn rfl)))
  have kn_42 : Hid (c_36 1 3 = c 1 3) := (hF_38 1 3 (fun q => q.elim (fun h => absurd h.1 (nn rfl)) (fun q => q.elim (fun h => absurd h (nn rfl)) (fun h => absurd h (nn rfl))))).trans ((up_c (nn rfl)).trans (hid kn_41))
  have h_43 : c_36 1 3 = c 1 3 := (hid kn_42)
  have h_44 := ir_41_2 hI
  have kn_45 : Hid (c_7 41 2 = c 41 2) := hF_9 41 2 (fun q => q.elim (fun h => absurd h.1 (nn rfl)) (fun h => absurd h.1 (nn rfl)))
  have kn_46 : Hid (c_36 41 2 = c 41 2) := (hF_38 41 2 (fun q => q.elim (fun h => absurd h.2 (ni rfl)) (fun q => q.elim (fun h => absurd h (nn rfl)) (fun h => absurd h (nn rfl))))).trans ((up_c (nn rfl)).trans (hid kn_45))
  have h_47 : c_36 41 2 = c 41 2 := (hid kn_46)
  exact K P Q c_36 0 (by decide) hI_37 ⟨by omega, ub_fr hU (fun j => (hF_38 2 j (fun q => q.elim (fun h => absurd h.1 (nn rfl)) (fun q => q.elim (fun h => absurd h (nn rfl)) (fun h => absurd h (nn rfl))))).trans ((up_c (nn rfl)).trans (hF_9 2 j (fun q => q.elim (fun h => absurd h.1 (nn rfl)) (fun h => absurd h.1 (nn rfl)))))) (fun j => (hF_38 43 j (fun q => q.elim (fun h => absurd h.1 (nn rfl)) (fun q => q.elim (fun h => absurd h (nn rfl)) (fun h => absurd h (nn rfl))))).trans ((up_c (nn rfl)).trans (hF_9 43 j (fun q => q.elim (fun h => absurd h.1 (nn rfl)) (fun h => absurd h.1 (nn rfl))))))⟩

set_option maxRecDepth 100000 in
set_option maxHeartbeats 4000000 in
theorem o_16 {xs : Nat → Int32} {L i0 d nc ns P Q : Nat} {c : ME} {Z : AR → Prop} (hi : i0 + 8 ≤ L) (hL : L ≤ 100000) (hI : Iv 0 (-1) P Q c) (hR : Rq P c) (K : ∀ (P2 Q2 : Nat) (c2 : ME) (e : Nat), e ≤ 1 → Iv 0 (-1) P2 Q2 c2 → (Rq P2 c2) → Wp (a_scr L xs) (d + 90) 296 1844 [(4, vi (i0 : Int)), (3, .ref 67), (2, .ref 41), (1, .ref 0), (0, .ref a_SC)] [] (Wd P2 Q2 P2 P2 c2) (nc + e) (ns + 6 * e) Z) : Wp (a_scr L xs) (d + 90) 296 879 [(4, vi (i0 : Int)), (3, .ref 67), (2, .ref 41), (1, .ref 0), (0, .ref a_SC)] [] (Wd P Q P P c) nc ns Z := by
  obtain ⟨x1, hx1⟩ : ∃ z, (xs (i0 + 1)).toInt = z := ⟨_, rfl⟩
  have x1r := c_rng (xs (i0 + 1))
  rw [hx1] at x1r
  obtain ⟨x2, hx2⟩ : ∃ z, (xs (i0 + 2)).toInt = z := ⟨_, rfl⟩
  have x2r := c_rng (xs (i0 + 2))
  rw [hx2] at x2r
  obtain ⟨x3, hx3⟩ : ∃ z, (xs (i0 + 3)).toInt = z := ⟨_, rfl⟩
  have x3r := c_rng (xs (i0 + 3))
  rw [hx3] at x3r
  obtain ⟨x4, hx4⟩ : ∃ z, (xs (i0 + 4)).toInt = z := ⟨_, rfl⟩
  have x4r := c_rng (xs (i0 + 4))
  rw [hx4] at x4r
  obtain ⟨x5, hx5⟩ : ∃ z, (xs (i0 + 5)).toInt = z := ⟨_, rfl⟩
  have x5r := c_rng (xs (i0 + 5))
  rw [hx5] at x5r
  obtain ⟨x6, hx6⟩ : ∃ z, (xs (i0 + 6)).toInt = z := ⟨_, rfl⟩
  have x6r := c_rng (xs (i0 + 6))
  rw [hx6] at x6r
  obtain ⟨x7, hx7⟩ : ∃ z, (xs (i0 + 7)).toInt = z := ⟨_, rfl⟩
  have x7r := c_rng (xs (i0 + 7))
  rw [hx7] at x7r
  have hT := rl_t hR
  have hU := rl_u hR
  have hP := iv_P hI
  have hQ := iv_Q hI
  refine q_aload_n rfl rfl ?_
  refine q_aload_n rfl rfl ?_
  refine q_iload rfl rfl ?_
  refine q_iconst rfl ?_
  refine v_iadd (v := (i0 : Int) + 1) rfl (by omega) ?_
  refine v_scr (j := i0 + 1) rfl (by omega) (by omega) hL hx1 ?_
  refine q_aload_n rfl rfl ?_
  refine q_iload rfl rfl ?_
  refine q_iconst rfl ?_
  refine v_iadd (v := (i0 : Int) + 2) rfl (by omega) ?_
  refine v_scr (j := i0 + 2) rfl (by omega) (by omega) hL hx2 ?_
  refine q_aload_n rfl rfl ?_
  refine q_iload rfl rfl ?_
  refine q_iconst rfl ?_
  refine v_iadd (v := (i0 : Int) + 3) rfl (by omega) ?_
  refine v_scr (j := i0 + 3) rfl (by omega) (by omega) hL hx3 ?_
  refine q_aload_n rfl rfl ?_
  refine q_call rfl rfl rfl rfl ?_
  refine q_aload rfl rfl ?_
  refine q_iconst rfl ?_
  refine q_aload_n rfl rfl ?_
  refine q_iload_n rfl rfl ?_
  refine q_iload_n rfl rfl ?_
  refine q_iload_n rfl rfl ?_
  refine v_cv rfl rfl rfl rfl (by decide) ⟨⟨rfl, rfl⟩, by decide, rfl⟩ (Nat.le_of_ble_eq_true rfl) (Nat.le_of_ble_eq_true rfl) (s_112 (a1 := x1) (a2 := x2) (a3 := x3) hI (show (-2147483648) ≤ x1 ∧ x1 ≤ 2147483647 from by omega) (show (-2147483648) ≤ x2 ∧ x2 ≤ 2147483647 from by omega) (show (-2147483648) ≤ x3 ∧ x3 ≤ 2147483647 from by omega) (fun c_1 hI_2 hF_3 => ?_) (fun c_4 hI_5 hF_6 => ?_) (fun c_7 y_10 hI_8 hF_9 hy_10 => ?_))
  · skip
    refine bk_thr (z := Int32.ofInt 1) rfl ⟨_, _, rfl⟩ rfl ?_
    refine bk_inl ?_
    refine q_istore rfl (by decide) ?_
    refine q_aload_n rfl rfl ?_
    refine q_aload_n rfl rfl ?_
    refine q_iload rfl rfl ?_
    refine q_iconst rfl ?_
    refine v_iadd (v := (i0 : Int) + 1) rfl (by omega) ?_
    refine v_scr (j := i0 + 1) rfl (by omega) (by omega) hL hx1 ?_
    refine q_aload_n rfl rfl ?_
    refine q_iload rfl rfl ?_
    refine q_iconst rfl ?_
    refine v_iadd (v := (i0 : Int) + 2) rfl (by omega) ?_
    refine v_scr (j := i0 + 2) rfl (by omega) (by omega) hL hx2 ?_
    refine q_aload_n rfl rfl ?_
    refine q_iload rfl rfl ?_
    refine q_iconst rfl ?_
    refine v_iadd (v := (i0 : Int) + 3) rfl (by omega) ?_
    refine v_scr (j := i0 + 3) rfl (by omega) (by omega) hL hx3 ?_
    refine v_cv rfl rfl rfl rfl (by decide) ⟨⟨rfl, rfl⟩, by decide, rfl⟩ (Nat.le_of_ble_eq_true rfl) (Nat.le_of_ble_eq_true rfl) (s_220 (a1 := x1) (a2 := x2) (a3 := x3) hI_2 (show (-2147483648) ≤ x1 ∧ x1 ≤ 2147483647 from by omega) (show (-2147483648) ≤ x2 ∧ x2 ≤ 2147483647 from by omega) (show (-2147483648) ≤ x3 ∧ x3 ≤ 2147483647 from by omega) (fun c_11 y_14 hI_12 hF_13 hy_14 => ?_))
    refine bk_inl ?_
    refine q_istore rfl (by decide) ?_
    refine q_goto (t := 1844) rfl (by decide) ?_
    refine Wp_ls [(4, vi (i0 : Int)), (3, .ref 67), (2, .ref 41), (1, .ref 0), (0, .ref a_SC)] (lsub_cons rfl (lsub_cons rfl (lsub_cons rfl (lsub_cons rfl (lsub_cons rfl lsub_nil))))) ?_
    have h_15 := ir_1_3 hI
    have kn_16 : Hid (c_1 1 3 = c 1 3) := hF_3 1 3 (fun q => q.elim (fun h => absurd h.1 (nn rfl)) (fun q => q.elim (fun h => absurd h.1 (nn rfl)) (fun h => absurd h (nn rfl))))
    have kn_17 : Hid (c_11 1 3 = c 1 3) := (hF_13 1 3 (fun q => q.elim (fun h => absurd h.1 (nn rfl)) (fun q => q.elim (fun h => absurd h (nn rfl)) (fun h => absurd h (nn rfl))))).trans (hid kn_16)
    have h_18 : c_11 1 3 = c 1 3 := (hid kn_17)
    have h_19 := ir_41_2 hI
    have kn_20 : Hid (c_1 41 2 = c 41 2) := hF_3 41 2 (fun q => q.elim (fun h => absurd h.1 (nn rfl)) (fun q => q.elim (fun h => absurd h.1 (nn rfl)) (fun h => absurd h (nn rfl))))
    have kn_21 : Hid (c_11 41 2 = c 41 2) := (hF_13 41 2 (fun q => q.elim (fun h => absurd h.2 (ni rfl)) (fun q => q.elim (fun h => absurd h (nn rfl)) (fun h => absurd h (nn rfl))))).trans (hid kn_20)
    have h_22 : c_11 41 2 = c 41 2 := (hid kn_21)
    exact K P Q c_11 1 (by decide) hI_12 ⟨by omega, ub_fr hU (fun j => (hF_13 2 j (fun q => q.elim (fun h => absurd h.1 (nn rfl)) (fun q => q.elim (fun h => absurd h (nn rfl)) (fun h => absurd h (nn rfl))))).trans (hF_3 2 j (fun q => q.elim (fun h => absurd h.1 (nn rfl)) (fun q => q.elim (fun h => absurd h.1 (nn rfl)) (fun h => absurd h (nn rfl)))))) (fun j => (hF_13 43 j (fun q => q.elim (fun h => absurd h.1 (nn rfl)) (fun q => q.elim (fun h => absurd h (nn rfl)) (fun h => absurd h (nn rfl))))).trans (hF_3 43 j (fun q => q.elim (fun h => absurd h.1 (nn rfl)) (fun q => q.elim (fun h => absurd h.1 (nn rfl)) (fun h => absurd h (nn rfl))))))⟩
  · skip
    refine bk_thr (z := Int32.ofInt 2) rfl ⟨_, _, rfl⟩ rfl ?_
    refine bk_inl ?_
    refine q_istore rfl (by decide) ?_
    refine q_aload_n rfl rfl ?_
    refine q_aload_n rfl rfl ?_
    refine q_iload rfl rfl ?_
    refine q_iconst rfl ?_
    refine v_iadd (v := (i0 : Int) + 1) rfl (by omega) ?_
    refine v_scr (j := i0 + 1) rfl (by omega) (by omega) hL hx1 ?_
    refine q_aload_n rfl rfl ?_
    refine q_iload rfl rfl ?_
    refine q_iconst rfl ?_
    refine v_iadd (v := (i0 : Int) + 2) rfl (by omega) ?_
    refine v_scr (j := i0 + 2) rfl (by omega) (by omega) hL hx2 ?_
    refine q_aload_n rfl rfl ?_
    refine q_iload rfl rfl ?_
    refine q_iconst rfl ?_
    refine v_iadd (v := (i0 : Int) + 3) rfl (by omega) ?_
    refine v_scr (j := i0 + 3) rfl (by omega) (by omega) hL hx3 ?_
    refine v_cv rfl rfl rfl rfl (by decide) ⟨⟨rfl, rfl⟩, by decide, rfl⟩ (Nat.le_of_ble_eq_true rfl) (Nat.le_of_ble_eq_true rfl) (s_220 (a1 := x1) (a2 := x2) (a3 := x3) hI_5 (show (-2147483648) ≤ x1 ∧ x1 ≤ 2147483647 from by omega) (show (-2147483648) ≤ x2 ∧ x2 ≤ 2147483647 from by omega) (show (-2147483648) ≤ x3 ∧ x3 ≤ 2147483647 from by omega) (fun c_23 y_26 hI_24 hF_25 hy_26 => ?_))
    refine bk_inl ?_
    refine q_istore rfl (by decide) ?_
    refine q_goto (t := 1844) rfl (by decide) ?_
    refine Wp_ls [(4, vi (i0 : Int)), (3, .ref 67), (2, .ref 41), (1, .ref 0), (0, .ref a_SC)] (lsub_cons rfl (lsub_cons rfl (lsub_cons rfl (lsub_cons rfl (lsub_cons rfl lsub_nil))))) ?_
    have h_27 := ir_1_3 hI
    have kn_28 : Hid (c_4 1 3 = c 1 3) := hF_6 1 3 (fun q => q.elim (fun h => absurd h.1 (nn rfl)) (fun q => q.elim (fun h => absurd h.1 (nn rfl)) (fun h => absurd h (nn rfl))))
    have kn_29 : Hid (c_23 1 3 = c 1 3) := (hF_25 1 3 (fun q => q.elim (fun h => absurd h.1 (nn rfl)) (fun q => q.elim (fun h => absurd h (nn rfl)) (fun h => absurd h (nn rfl))))).trans (hid kn_28)
    have h_30 : c_23 1 3 = c 1 3 := (hid kn_29)
    have h_31 := ir_41_2 hI
    have kn_32 : Hid (c_4 41 2 = c 41 2) := hF_6 41 2 (fun q => q.elim (fun h => absurd h.1 (nn rfl)) (fun q => q.elim (fun h => absurd h.1 (nn rfl)) (fun h => absurd h (nn rfl))))
    have kn_33 : Hid (c_23 41 2 = c 41 2) := (hF_25 41 2 (fun q => q.elim (fun h => absurd h.2 (ni rfl)) (fun q => q.elim (fun h => absurd h (nn rfl)) (fun h => absurd h (nn rfl))))).trans (hid kn_32)
    have h_34 : c_23 41 2 = c 41 2 := (hid kn_33)
    exact K P Q c_23 1 (by decide) hI_24 ⟨by omega, ub_fr hU (fun j => (hF_25 2 j (fun q => q.elim (fun h => absurd h.1 (nn rfl)) (fun q => q.elim (fun h => absurd h (nn rfl)) (fun h => absurd h (nn rfl))))).trans (hF_6 2 j (fun q => q.elim (fun h => absurd h.1 (nn rfl)) (fun q => q.elim (fun h => absurd h.1 (nn rfl)) (fun h => absurd h (nn rfl)))))) (fun j => (hF_25 43 j (fun q => q.elim (fun h => absurd h.1 (nn rfl)) (fun q => q.elim (fun h => absurd h (nn rfl)) (fun h => absurd h (nn rfl))))).trans (hF_6 43 j (fun q => q.elim (fun h => absurd h.1 (nn rfl)) (fun q => q.elim (fun h => absurd h.1 (nn rfl)) (fun h => absurd h (nn rfl))))))⟩
  refine bk_inl ?_
  refine v_i2l rfl (by omega) ?_
  refine v_ls rfl rfl (by decide) (by decide) (by decide) ?_
  refine q_goto (t := 23) rfl (by decide) ?_
  refine q_iconst rfl ?_
  refine q_iret rfl rfl ?_
  refine bk_inl ?_
  refine q_istore rfl (by decide) ?_
  refine q_aload_n rfl rfl ?_
  refine q_aload_n rfl rfl ?_
  refine q_iload rfl rfl ?_
  refine q_iconst rfl ?_
  refine v_iadd (v := (i0 : Int) + 1) rfl (by omega) ?_
  refine v_scr (j := i0 + 1) rfl (by omega) (by omega) hL hx1 ?_
  refine q_aload_n rfl rfl ?_
  refine q_iload rfl rfl ?_
  refine q_iconst rfl ?_
  refine v_iadd (v := (i0 : Int) + 2) rfl (by omega) ?_
  refine v_scr (j := i0 + 2) rfl (by omega) (by omega) hL hx2 ?_
  refine q_aload_n rfl rfl ?_
  refine q_iload rfl rfl ?_
  refine q_iconst rfl ?_
  refine v_iadd (v := (i0 : Int) + 3) rfl (by omega) ?_
  refine v_scr (j := i0 + 3) rfl (by omega) (by omega) hL hx3 ?_
  have hI_35 := iw_lx (a := 67) (j := 0) (v := y_10) hI_8 (by omega)
  refine v_cv rfl rfl rfl rfl (by decide) ⟨⟨rfl, rfl⟩, by decide, rfl⟩ (Nat.le_of_ble_eq_true rfl) (Nat.le_of_ble_eq_true rfl) (s_220 (a1 := x1) (a2 := x2) (a3 := x3) hI_35 (show (-2147483648) ≤ x1 ∧ x1 ≤ 2147483647 from by omega) (show (-2147483648) ≤ x2 ∧ x2 ≤ 2147483647 from by omega) (show (-2147483648) ≤ x3 ∧ x3 ≤ 2147483647 from by omega) (fun c_36 y_39 hI_37 hF_38 hy_39 => ?_))
  refine bk_inl ?_
  refine q_istore rfl (by decide) ?_
  refine q_goto (t := 1844) rfl (by decide) ?_
  refine Wp_ls [(4, vi (i0 : Int)), (3, .ref 67), (2, .ref 41), (1, .ref 0), (0, .ref a_SC)] (lsub_cons rfl (lsub_cons rfl (lsub_cons rfl (lsub_cons rfl (lsub_cons rfl lsub_nil))))) ?_
  have h_40 := ir_1_3 hI
  have kn_41 : Hid (c_7 1 3 = c 1 3) := hF_9 1 3 (fun q => q.elim (fun h => absurd h.1 (nn rfl)) (fun q => q.elim (fun h => absurd h.1 (nn rfl)) (fun h => absurd h (nn rfl))))
  have kn_42 : Hid (c_36 1 3 = c 1 3) := (hF_38 1 3 (fun q => q.elim (fun h => absurd h.1 (nn rfl)) (fun q => q.elim (fun h => absurd h (nn rfl)) (fun h => absurd h (nn rfl))))).trans ((up_c (nn rfl)).trans (hid kn_41))
  have h_43 : c_36 1 3 = c 1 3 := (hid kn_42)
  have h_44 := ir_41_2 hI
  have kn_45 : Hid (c_7 41 2 = c 41 2) := hF_9 41 2 (fun q => q.elim (fun h => absurd h.1 (nn rfl)) (fun q => q.elim (fun h => absurd h.1 (nn rfl)) (fun h => absurd h (nn rfl))))
  have kn_46 : Hid (c_36 41 2 = c 41 2) := (hF_38 41 2 (fun q => q.elim (fun h => absurd h.2 (ni rfl)) (fun q => q.elim (fun h => absurd h (nn rfl)) (fun h => absurd h (nn rfl))))).trans ((up_c (nn rfl)).trans (hid kn_45))
  have h_47 : c_36 41 2 = c 41 2 := (hid kn_46)
  exact K P Q c_36 0 (by decide) hI_37 ⟨by omega, ub_fr hU (fun j => (hF_38 2 j (fun q => q.elim (fun h => absurd h.1 (nn rfl)) (fun q => q.elim (fun h => absurd h (nn rfl)) (fun h => absurd h (nn rfl))))).trans ((up_c (nn rfl)).trans (hF_9 2 j (fun q => q.elim (fun h => absurd h.1 (nn rfl)) (fun q => q.elim (fun h => absurd h.1 (nn rfl)) (fun h => absurd h (nn rfl))))))) (fun j => (hF_38 43 j (fun q => q.elim (fun h => absurd h.1 (nn rfl)) (fun q => q.elim (fun h => absurd h (nn rfl)) (fun h => absurd h (nn rfl))))).trans ((up_c (nn rfl)).trans (hF_9 43 j (fun q => q.elim (fun h => absurd h.1 (nn rfl)) (fun q => q.elim (fun h => absurd h.1 (nn rfl)) (fun h => absurd h (nn rfl)))))))⟩

set_option maxRecDepth 100000 in
set_option maxHeartbeats 4000000 in
theorem o_17 {xs : Nat → Int32} {L i0 d nc ns P Q : Nat} {c : ME} {Z : AR → Prop} (hi : i0 + 8 ≤ L) (hL : L ≤ 100000) (hI : Iv 0 (-1) P Q c) (hR : Rq P c) (K : ∀ (P2 Q2 : Nat) (c2 : ME) (e : Nat), e ≤ 1 → Iv 0 (-1) P2 Q2 c2 → (Rq P2 c2) → Wp (a_scr L xs) (d + 90) 296 1844 [(4, vi (i0 : Int)), (3, .ref 67), (2, .ref 41), (1, .ref 0), (0, .ref a_SC)] [] (Wd P2 Q2 P2 P2 c2) (nc + e) (ns + 6 * e) Z) : Wp (a_scr L xs) (d + 90) 296 931 [(4, vi (i0 : Int)), (3, .ref 67), (2, .ref 41), (1, .ref 0), (0, .ref a_SC)] [] (Wd P Q P P c) nc ns Z := by
  obtain ⟨x1, hx1⟩ : ∃ z, (xs (i0 + 1)).toInt = z := ⟨_, rfl⟩
  have x1r := c_rng (xs (i0 + 1))
  rw [hx1] at x1r
  obtain ⟨x2, hx2⟩ : ∃ z, (xs (i0 + 2)).toInt = z := ⟨_, rfl⟩
  have x2r := c_rng (xs (i0 + 2))
  rw [hx2] at x2r
  obtain ⟨x3, hx3⟩ : ∃ z, (xs (i0 + 3)).toInt = z := ⟨_, rfl⟩
  have x3r := c_rng (xs (i0 + 3))
  rw [hx3] at x3r
  obtain ⟨x4, hx4⟩ : ∃ z, (xs (i0 + 4)).toInt = z := ⟨_, rfl⟩
  have x4r := c_rng (xs (i0 + 4))
  rw [hx4] at x4r
  obtain ⟨x5, hx5⟩ : ∃ z, (xs (i0 + 5)).toInt = z := ⟨_, rfl⟩
  have x5r := c_rng (xs (i0 + 5))
  rw [hx5] at x5r
  obtain ⟨x6, hx6⟩ : ∃ z, (xs (i0 + 6)).toInt = z := ⟨_, rfl⟩
  have x6r := c_rng (xs (i0 + 6))
  rw [hx6] at x6r
  obtain ⟨x7, hx7⟩ : ∃ z, (xs (i0 + 7)).toInt = z := ⟨_, rfl⟩
  have x7r := c_rng (xs (i0 + 7))
  rw [hx7] at x7r
  have hT := rl_t hR
  have hU := rl_u hR
  have hP := iv_P hI
  have hQ := iv_Q hI
  refine q_aload_n rfl rfl ?_
  refine q_aload_n rfl rfl ?_
  refine q_iload rfl rfl ?_
  refine q_iconst rfl ?_
  refine v_iadd (v := (i0 : Int) + 1) rfl (by omega) ?_
  refine v_scr (j := i0 + 1) rfl (by omega) (by omega) hL hx1 ?_
  refine q_aload_n rfl rfl ?_
  refine q_iload rfl rfl ?_
  refine q_iconst rfl ?_
  refine v_iadd (v := (i0 : Int) + 2) rfl (by omega) ?_
  refine v_scr (j := i0 + 2) rfl (by omega) (by omega) hL hx2 ?_
  refine q_aload_n rfl rfl ?_
  refine q_call rfl rfl rfl rfl ?_
  refine q_aload_n rfl rfl ?_
  refine q_iconst rfl ?_
  refine q_aload_n rfl rfl ?_
  refine q_iload_n rfl rfl ?_
  refine q_iload_n rfl rfl ?_
  refine v_cv rfl rfl rfl rfl (by decide) ⟨⟨rfl, rfl⟩, by decide, rfl⟩ (Nat.le_of_ble_eq_true rfl) (Nat.le_of_ble_eq_true rfl) (s_114 (a1 := x1) (a2 := x2) hI (show (-2147483648) ≤ x1 ∧ x1 ≤ 2147483647 from by omega) (show (-2147483648) ≤ x2 ∧ x2 ≤ 2147483647 from by omega) (fun c_1 hI_2 hF_3 => ?_) (fun c_4 hI_5 hF_6 => ?_) (fun c_7 y_10 hI_8 hF_9 hy_10 => ?_))
  · skip
    refine bk_thr (z := Int32.ofInt 1) rfl ⟨_, _, rfl⟩ rfl ?_
    refine bk_inl ?_
    refine q_istore rfl (by decide) ?_
    refine q_aload_n rfl rfl ?_
    refine q_aload_n rfl rfl ?_
    refine q_iload rfl rfl ?_
    refine q_iconst rfl ?_
    refine v_iadd (v := (i0 : Int) + 1) rfl (by omega) ?_
    refine v_scr (j := i0 + 1) rfl (by omega) (by omega) hL hx1 ?_
    refine q_aload_n rfl rfl ?_
    refine q_iload rfl rfl ?_
    refine q_iconst rfl ?_
    refine v_iadd (v := (i0 : Int) + 2) rfl (by omega) ?_
    refine v_scr (j := i0 + 2) rfl (by omega) (by omega) hL hx2 ?_
    refine v_cv rfl rfl rfl rfl (by decide) ⟨⟨rfl, rfl⟩, by decide, rfl⟩ (Nat.le_of_ble_eq_true rfl) (Nat.le_of_ble_eq_true rfl) (s_221 (a1 := x1) (a2 := x2) hI_2 (show (-2147483648) ≤ x1 ∧ x1 ≤ 2147483647 from by omega) (show (-2147483648) ≤ x2 ∧ x2 ≤ 2147483647 from by omega) (fun c_11 y_14 hI_12 hF_13 hy_14 => ?_))
    refine bk_inl ?_
    refine q_istore rfl (by decide) ?_
    refine q_goto (t := 1844) rfl (by decide) ?_
    refine Wp_ls [(4, vi (i0 : Int)), (3, .ref 67), (2, .ref 41), (1, .ref 0), (0, .ref a_SC)] (lsub_cons rfl (lsub_cons rfl (lsub_cons rfl (lsub_cons rfl (lsub_cons rfl lsub_nil))))) ?_
    have h_15 := ir_1_3 hI
    have kn_16 : Hid (c_1 1 3 = c 1 3) := hF_3 1 3 (fun q => q.elim (fun h => absurd h.1 (nn rfl)) (fun q => q.elim (fun h => absurd h.1 (nn rfl)) (fun h => absurd h (nn rfl))))
    have kn_17 : Hid (c_11 1 3 = c 1 3) := (hF_13 1 3 (fun q => q.elim (fun h => absurd h.1 (nn rfl)) (fun q => q.elim (fun h => absurd h (nn rfl)) (fun h => absurd h (nn rfl))))).trans (hid kn_16)
    have h_18 : c_11 1 3 = c 1 3 := (hid kn_17)
    have h_19 := ir_41_2 hI
    have kn_20 : Hid (c_1 41 2 = c 41 2) := hF_3 41 2 (fun q => q.elim (fun h => absurd h.1 (nn rfl)) (fun q => q.elim (fun h => absurd h.1 (nn rfl)) (fun h => absurd h (nn rfl))))
    have kn_21 : Hid (c_11 41 2 = c 41 2) := (hF_13 41 2 (fun q => q.elim (fun h => absurd h.2 (ni rfl)) (fun q => q.elim (fun h => absurd h (nn rfl)) (fun h => absurd h (nn rfl))))).trans (hid kn_20)
    have h_22 : c_11 41 2 = c 41 2 := (hid kn_21)
    exact K P Q c_11 1 (by decide) hI_12 ⟨by omega, ub_fr hU (fun j => (hF_13 2 j (fun q => q.elim (fun h => absurd h.1 (nn rfl)) (fun q => q.elim (fun h => absurd h (nn rfl)) (fun h => absurd h (nn rfl))))).trans (hF_3 2 j (fun q => q.elim (fun h => absurd h.1 (nn rfl)) (fun q => q.elim (fun h => absurd h.1 (nn rfl)) (fun h => absurd h (nn rfl)))))) (fun j => (hF_13 43 j (fun q => q.elim (fun h => absurd h.1 (nn rfl)) (fun q => q.elim (fun h => absurd h (nn rfl)) (fun h => absurd h (nn rfl))))).trans (hF_3 43 j (fun q => q.elim (fun h => absurd h.1 (nn rfl)) (fun q => q.elim (fun h => absurd h.1 (nn rfl)) (fun h => absurd h (nn rfl))))))⟩
  · skip
    refine bk_thr (z := Int32.ofInt 2) rfl ⟨_, _, rfl⟩ rfl ?_
    refine bk_inl ?_
    refine q_istore rfl (by decide) ?_
    refine q_aload_n rfl rfl ?_
    refine q_aload_n rfl rfl ?_
    refine q_iload rfl rfl ?_
    refine q_iconst rfl ?_
    refine v_iadd (v := (i0 : Int) + 1) rfl (by omega) ?_
    refine v_scr (j := i0 + 1) rfl (by omega) (by omega) hL hx1 ?_
    refine q_aload_n rfl rfl ?_
    refine q_iload rfl rfl ?_
    refine q_iconst rfl ?_
    refine v_iadd (v := (i0 : Int) + 2) rfl (by omega) ?_
    refine v_scr (j := i0 + 2) rfl (by omega) (by omega) hL hx2 ?_
    refine v_cv rfl rfl rfl rfl (by decide) ⟨⟨rfl, rfl⟩, by decide, rfl⟩ (Nat.le_of_ble_eq_true rfl) (Nat.le_of_ble_eq_true rfl) (s_221 (a1 := x1) (a2 := x2) hI_5 (show (-2147483648) ≤ x1 ∧ x1 ≤ 2147483647 from by omega) (show (-2147483648) ≤ x2 ∧ x2 ≤ 2147483647 from by omega) (fun c_23 y_26 hI_24 hF_25 hy_26 => ?_))
    refine bk_inl ?_
    refine q_istore rfl (by decide) ?_
    refine q_goto (t := 1844) rfl (by decide) ?_
    refine Wp_ls [(4, vi (i0 : Int)), (3, .ref 67), (2, .ref 41), (1, .ref 0), (0, .ref a_SC)] (lsub_cons rfl (lsub_cons rfl (lsub_cons rfl (lsub_cons rfl (lsub_cons rfl lsub_nil))))) ?_
    have h_27 := ir_1_3 hI
    have kn_28 : Hid (c_4 1 3 = c 1 3) := hF_6 1 3 (fun q => q.elim (fun h => absurd h.1 (nn rfl)) (fun q => q.elim (fun h => absurd h.1 (nn rfl)) (fun h => absurd h (nn rfl))))
    have kn_29 : Hid (c_23 1 3 = c 1 3) := (hF_25 1 3 (fun q => q.elim (fun h => absurd h.1 (nn rfl)) (fun q => q.elim (fun h => absurd h (nn rfl)) (fun h => absurd h (nn rfl))))).trans (hid kn_28)
    have h_30 : c_23 1 3 = c 1 3 := (hid kn_29)
    have h_31 := ir_41_2 hI
    have kn_32 : Hid (c_4 41 2 = c 41 2) := hF_6 41 2 (fun q => q.elim (fun h => absurd h.1 (nn rfl)) (fun q => q.elim (fun h => absurd h.1 (nn rfl)) (fun h => absurd h (nn rfl))))
    have kn_33 : Hid (c_23 41 2 = c 41 2) := (hF_25 41 2 (fun q => q.elim (fun h => absurd h.2 (ni rfl)) (fun q => q.elim (fun h => absurd h (nn rfl)) (fun h => absurd h (nn rfl))))).trans (hid kn_32)
    have h_34 : c_23 41 2 = c 41 2 := (hid kn_33)
    exact K P Q c_23 1 (by decide) hI_24 ⟨by omega, ub_fr hU (fun j => (hF_25 2 j (fun q => q.elim (fun h => absurd h.1 (nn rfl)) (fun q => q.elim (fun h => absurd h (nn rfl)) (fun h => absurd h (nn rfl))))).trans (hF_6 2 j (fun q => q.elim (fun h => absurd h.1 (nn rfl)) (fun q => q.elim (fun h => absurd h.1 (nn rfl)) (fun h => absurd h (nn rfl)))))) (fun j => (hF_25 43 j (fun q => q.elim (fun h => absurd h.1 (nn rfl)) (fun q => q.elim (fun h => absurd h (nn rfl)) (fun h => absurd h (nn rfl))))).trans (hF_6 43 j (fun q => q.elim (fun h => absurd h.1 (nn rfl)) (fun q => q.elim (fun h => absurd h.1 (nn rfl)) (fun h => absurd h (nn rfl))))))⟩
  refine bk_inl ?_
  refine v_i2l rfl (by omega) ?_
  refine v_ls rfl rfl (by decide) (by decide) (by decide) ?_
  refine q_goto (t := 21) rfl (by decide) ?_
  refine q_iconst rfl ?_
  refine q_iret rfl rfl ?_
  refine bk_inl ?_
  refine q_istore rfl (by decide) ?_
  refine q_aload_n rfl rfl ?_
  refine q_aload_n rfl rfl ?_
  refine q_iload rfl rfl ?_
  refine q_iconst rfl ?_
  refine v_iadd (v := (i0 : Int) + 1) rfl (by omega) ?_
  refine v_scr (j := i0 + 1) rfl (by omega) (by omega) hL hx1 ?_
  refine q_aload_n rfl rfl ?_
  refine q_iload rfl rfl ?_
  refine q_iconst rfl ?_
  refine v_iadd (v := (i0 : Int) + 2) rfl (by omega) ?_
  refine v_scr (j := i0 + 2) rfl (by omega) (by omega) hL hx2 ?_
  have hI_35 := iw_lx (a := 67) (j := 0) (v := y_10) hI_8 (by omega)
  refine v_cv rfl rfl rfl rfl (by decide) ⟨⟨rfl, rfl⟩, by decide, rfl⟩ (Nat.le_of_ble_eq_true rfl) (Nat.le_of_ble_eq_true rfl) (s_221 (a1 := x1) (a2 := x2) hI_35 (show (-2147483648) ≤ x1 ∧ x1 ≤ 2147483647 from by omega) (show (-2147483648) ≤ x2 ∧ x2 ≤ 2147483647 from by omega) (fun c_36 y_39 hI_37 hF_38 hy_39 => ?_))
  refine bk_inl ?_
  refine q_istore rfl (by decide) ?_
  refine q_goto (t := 1844) rfl (by decide) ?_
  refine Wp_ls [(4, vi (i0 : Int)), (3, .ref 67), (2, .ref 41), (1, .ref 0), (0, .ref a_SC)] (lsub_cons rfl (lsub_cons rfl (lsub_cons rfl (lsub_cons rfl (lsub_cons rfl lsub_nil))))) ?_
  have h_40 := ir_1_3 hI
  have kn_41 : Hid (c_7 1 3 = c 1 3) := hF_9 1 3 (fun q => q.elim (fun h => absurd h.1 (nn rfl)) (fun q => q.elim (fun h => absurd h.1 (nn rfl)) (fun h => absurd h (nn rfl))))
  have kn_42 : Hid (c_36 1 3 = c 1 3) := (hF_38 1 3 (fun q => q.elim (fun h => absurd h.1 (nn rfl)) (fun q => q.elim (fun h => absurd h (nn rfl)) (fun h => absurd h (nn rfl))))).trans ((up_c (nn rfl)).trans (hid kn_41))
  have h_43 : c_36 1 3 = c 1 3 := (hid kn_42)
  have h_44 := ir_41_2 hI
  have kn_45 : Hid (c_7 41 2 = c 41 2) := hF_9 41 2 (fun q => q.elim (fun h => absurd h.1 (nn rfl)) (fun q => q.elim (fun h => absurd h.1 (nn rfl)) (fun h => absurd h (nn rfl))))
  have kn_46 : Hid (c_36 41 2 = c 41 2) := (hF_38 41 2 (fun q => q.elim (fun h => absurd h.2 (ni rfl)) (fun q => q.elim (fun h => absurd h (nn rfl)) (fun h => absurd h (nn rfl))))).trans ((up_c (nn rfl)).trans (hid kn_45))
  have h_47 : c_36 41 2 = c 41 2 := (hid kn_46)
  exact K P Q c_36 0 (by decide) hI_37 ⟨by omega, ub_fr hU (fun j => (hF_38 2 j (fun q => q.elim (fun h => absurd h.1 (nn rfl)) (fun q => q.elim (fun h => absurd h (nn rfl)) (fun h => absurd h (nn rfl))))).trans ((up_c (nn rfl)).trans (hF_9 2 j (fun q => q.elim (fun h => absurd h.1 (nn rfl)) (fun q => q.elim (fun h => absurd h.1 (nn rfl)) (fun h => absurd h (nn rfl))))))) (fun j => (hF_38 43 j (fun q => q.elim (fun h => absurd h.1 (nn rfl)) (fun q => q.elim (fun h => absurd h (nn rfl)) (fun h => absurd h (nn rfl))))).trans ((up_c (nn rfl)).trans (hF_9 43 j (fun q => q.elim (fun h => absurd h.1 (nn rfl)) (fun q => q.elim (fun h => absurd h.1 (nn rfl)) (fun h => absurd h (nn rfl)))))))⟩

set_option maxRecDepth 100000 in
set_option maxHeartbeats 4000000 in
theorem o_18 {xs : Nat → Int32} {L i0 d nc ns P Q : Nat} {c : ME} {Z : AR → Prop} (hi : i0 + 8 ≤ L) (hL : L ≤ 100000) (hI : Iv 0 (-1) P Q c) (hR : Rq P c) (K : ∀ (P2 Q2 : Nat) (c2 : ME) (e : Nat), e ≤ 1 → Iv 0 (-1) P2 Q2 c2 → (Rq P2 c2) → Wp (a_scr L xs) (d + 90) 296 1844 [(4, vi (i0 : Int)), (3, .ref 67), (2, .ref 41), (1, .ref 0), (0, .ref a_SC)] [] (Wd P2 Q2 P2 P2 c2) (nc + e) (ns + 6 * e) Z) : Wp (a_scr L xs) (d + 90) 296 971 [(4, vi (i0 : Int)), (3, .ref 67), (2, .ref 41), (1, .ref 0), (0, .ref a_SC)] [] (Wd P Q P P c) nc ns Z := by
  obtain ⟨x1, hx1⟩ : ∃ z, (xs (i0 + 1)).toInt = z := ⟨_, rfl⟩
  have x1r := c_rng (xs (i0 + 1))
  rw [hx1] at x1r
  obtain ⟨x2, hx2⟩ : ∃ z, (xs (i0 + 2)).toInt = z := ⟨_, rfl⟩
  have x2r := c_rng (xs (i0 + 2))
  rw [hx2] at x2r
  obtain ⟨x3, hx3⟩ : ∃ z, (xs (i0 + 3)).toInt = z := ⟨_, rfl⟩
  have x3r := c_rng (xs (i0 + 3))
  rw [hx3] at x3r
  obtain ⟨x4, hx4⟩ : ∃ z, (xs (i0 + 4)).toInt = z := ⟨_, rfl⟩
  have x4r := c_rng (xs (i0 + 4))
  rw [hx4] at x4r
  obtain ⟨x5, hx5⟩ : ∃ z, (xs (i0 + 5)).toInt = z := ⟨_, rfl⟩
  have x5r := c_rng (xs (i0 + 5))
  rw [hx5] at x5r
  obtain ⟨x6, hx6⟩ : ∃ z, (xs (i0 + 6)).toInt = z := ⟨_, rfl⟩
  have x6r := c_rng (xs (i0 + 6))
  rw [hx6] at x6r
  obtain ⟨x7, hx7⟩ : ∃ z, (xs (i0 + 7)).toInt = z := ⟨_, rfl⟩
  have x7r := c_rng (xs (i0 + 7))
  rw [hx7] at x7r
  have hT := rl_t hR
  have hU := rl_u hR
  have hP := iv_P hI
  have hQ := iv_Q hI
  refine q_aload_n rfl rfl ?_
  refine q_aload_n rfl rfl ?_
  refine q_iload rfl rfl ?_
  refine q_iconst rfl ?_
  refine v_iadd (v := (i0 : Int) + 1) rfl (by omega) ?_
  refine v_scr (j := i0 + 1) rfl (by omega) (by omega) hL hx1 ?_
  refine q_aload_n rfl rfl ?_
  refine q_iload rfl rfl ?_
  refine q_iconst rfl ?_
  refine v_iadd (v := (i0 : Int) + 2) rfl (by omega) ?_
  refine v_scr (j := i0 + 2) rfl (by omega) (by omega) hL hx2 ?_
  refine q_aload_n rfl rfl ?_
  refine q_call rfl rfl rfl rfl ?_
  refine q_aload_n rfl rfl ?_
  refine q_iconst rfl ?_
  refine q_aload_n rfl rfl ?_
  refine q_iload_n rfl rfl ?_
  refine q_iload_n rfl rfl ?_
  refine v_cv rfl rfl rfl rfl (by decide) ⟨⟨rfl, rfl⟩, by decide, rfl⟩ (Nat.le_of_ble_eq_true rfl) (Nat.le_of_ble_eq_true rfl) (s_119 (a1 := x1) (a2 := x2) hI (show (-2147483648) ≤ x1 ∧ x1 ≤ 2147483647 from by omega) (show (-2147483648) ≤ x2 ∧ x2 ≤ 2147483647 from by omega) (fun c_1 hI_2 hF_3 => ?_) (fun c_4 y_7 hI_5 hF_6 hy_7 => ?_))
  · skip
    refine bk_thr (z := Int32.ofInt 1) rfl ⟨_, _, rfl⟩ rfl ?_
    refine bk_inl ?_
    refine q_istore rfl (by decide) ?_
    refine q_aload_n rfl rfl ?_
    refine q_aload_n rfl rfl ?_
    refine q_iload rfl rfl ?_
    refine q_iconst rfl ?_
    refine v_iadd (v := (i0 : Int) + 1) rfl (by omega) ?_
    refine v_scr (j := i0 + 1) rfl (by omega) (by omega) hL hx1 ?_
    refine q_aload_n rfl rfl ?_
    refine q_iload rfl rfl ?_
    refine q_iconst rfl ?_
    refine v_iadd (v := (i0 : Int) + 2) rfl (by omega) ?_
    refine v_scr (j := i0 + 2) rfl (by omega) (by omega) hL hx2 ?_
    refine v_cv rfl rfl rfl rfl (by decide) ⟨⟨rfl, rfl⟩, by decide, rfl⟩ (Nat.le_of_ble_eq_true rfl) (Nat.le_of_ble_eq_true rfl) (s_227 (a1 := x1) (a2 := x2) hI_2 (show (-2147483648) ≤ x1 ∧ x1 ≤ 2147483647 from by omega) (show (-2147483648) ≤ x2 ∧ x2 ≤ 2147483647 from by omega) (fun c_8 y_11 hI_9 hF_10 hy_11 => ?_))
    refine bk_inl ?_
    refine q_istore rfl (by decide) ?_
    refine q_goto (t := 1844) rfl (by decide) ?_
    refine Wp_ls [(4, vi (i0 : Int)), (3, .ref 67), (2, .ref 41), (1, .ref 0), (0, .ref a_SC)] (lsub_cons rfl (lsub_cons rfl (lsub_cons rfl (lsub_cons rfl (lsub_cons rfl lsub_nil))))) ?_
    have h_12 := ir_1_3 hI
    have kn_13 : Hid (c_1 1 3 = c 1 3) := hF_3 1 3 (fun h => absurd h.1 (nn rfl))
    have kn_14 : Hid (c_8 1 3 = c 1 3) := (hF_10 1 3 (fun q => q.elim (fun h => absurd h.1 (nn rfl)) (fun q => q.elim (fun h => absurd h (nn rfl)) (fun h => absurd h (nn rfl))))).trans (hid kn_13)
    have h_15 : c_8 1 3 = c 1 3 := (hid kn_14)
    have h_16 := ir_41_2 hI
    have kn_17 : Hid (c_1 41 2 = c 41 2) := hF_3 41 2 (fun h => absurd h.1 (nn rfl))
    have kn_18 : Hid (c_8 41 2 = c 41 2) := (hF_10 41 2 (fun q => q.elim (fun h => absurd h.2 (ni rfl)) (fun q => q.elim (fun h => absurd h (nn rfl)) (fun h => absurd h (nn rfl))))).trans (hid kn_17)
    have h_19 : c_8 41 2 = c 41 2 := (hid kn_18)
    exact K P Q c_8 1 (by decide) hI_9 ⟨by omega, ub_fr hU (fun j => (hF_10 2 j (fun q => q.elim (fun h => absurd h.1 (nn rfl)) (fun q => q.elim (fun h => absurd h (nn rfl)) (fun h => absurd h (nn rfl))))).trans (hF_3 2 j (fun h => absurd h.1 (nn rfl)))) (fun j => (hF_10 43 j (fun q => q.elim (fun h => absurd h.1 (nn rfl)) (fun q => q.elim (fun h => absurd h (nn rfl)) (fun h => absurd h (nn rfl))))).trans (hF_3 43 j (fun h => absurd h.1 (nn rfl))))⟩
  refine bk_inl ?_
  refine v_i2l rfl (by omega) ?_
  refine v_ls rfl rfl (by decide) (by decide) (by decide) ?_
  refine q_goto (t := 17) rfl (by decide) ?_
  refine q_iconst rfl ?_
  refine q_iret rfl rfl ?_
  refine bk_inl ?_
  refine q_istore rfl (by decide) ?_
  refine q_aload_n rfl rfl ?_
  refine q_aload_n rfl rfl ?_
  refine q_iload rfl rfl ?_
  refine q_iconst rfl ?_
  refine v_iadd (v := (i0 : Int) + 1) rfl (by omega) ?_
  refine v_scr (j := i0 + 1) rfl (by omega) (by omega) hL hx1 ?_
  refine q_aload_n rfl rfl ?_
  refine q_iload rfl rfl ?_
  refine q_iconst rfl ?_
  refine v_iadd (v := (i0 : Int) + 2) rfl (by omega) ?_
  refine v_scr (j := i0 + 2) rfl (by omega) (by omega) hL hx2 ?_
  have hI_20 := iw_lx (a := 67) (j := 0) (v := y_7) hI_5 (by omega)
  refine v_cv rfl rfl rfl rfl (by decide) ⟨⟨rfl, rfl⟩, by decide, rfl⟩ (Nat.le_of_ble_eq_true rfl) (Nat.le_of_ble_eq_true rfl) (s_227 (a1 := x1) (a2 := x2) hI_20 (show (-2147483648) ≤ x1 ∧ x1 ≤ 2147483647 from by omega) (show (-2147483648) ≤ x2 ∧ x2 ≤ 2147483647 from by omega) (fun c_21 y_24 hI_22 hF_23 hy_24 => ?_))
  refine bk_inl ?_
  refine q_istore rfl (by decide) ?_
  refine q_goto (t := 1844) rfl (by decide) ?_
  refine Wp_ls [(4, vi (i0 : Int)), (3, .ref 67), (2, .ref 41), (1, .ref 0), (0, .ref a_SC)] (lsub_cons rfl (lsub_cons rfl (lsub_cons rfl (lsub_cons rfl (lsub_cons rfl lsub_nil))))) ?_
  have h_25 := ir_1_3 hI
  have kn_26 : Hid (c_4 1 3 = c 1 3) := hF_6 1 3 (fun h => absurd h.1 (nn rfl))
  have kn_27 : Hid (c_21 1 3 = c 1 3) := (hF_23 1 3 (fun q => q.elim (fun h => absurd h.1 (nn rfl)) (fun q => q.elim (fun h => absurd h (nn rfl)) (fun h => absurd h (nn rfl))))).trans ((up_c (nn rfl)).trans (hid kn_26))
  have h_28 : c_21 1 3 = c 1 3 := (hid kn_27)
  have h_29 := ir_41_2 hI
  have kn_30 : Hid (c_4 41 2 = c 41 2) := hF_6 41 2 (fun h => absurd h.1 (nn rfl))
  have kn_31 : Hid (c_21 41 2 = c 41 2) := (hF_23 41 2 (fun q => q.elim (fun h => absurd h.2 (ni rfl)) (fun q => q.elim (fun h => absurd h (nn rfl)) (fun h => absurd h (nn rfl))))).trans ((up_c (nn rfl)).trans (hid kn_30))
  have h_32 : c_21 41 2 = c 41 2 := (hid kn_31)
  exact K P Q c_21 0 (by decide) hI_22 ⟨by omega, ub_fr hU (fun j => (hF_23 2 j (fun q => q.elim (fun h => absurd h.1 (nn rfl)) (fun q => q.elim (fun h => absurd h (nn rfl)) (fun h => absurd h (nn rfl))))).trans ((up_c (nn rfl)).trans (hF_6 2 j (fun h => absurd h.1 (nn rfl))))) (fun j => (hF_23 43 j (fun q => q.elim (fun h => absurd h.1 (nn rfl)) (fun q => q.elim (fun h => absurd h (nn rfl)) (fun h => absurd h (nn rfl))))).trans ((up_c (nn rfl)).trans (hF_6 43 j (fun h => absurd h.1 (nn rfl)))))⟩

set_option maxRecDepth 100000 in
set_option maxHeartbeats 4000000 in
theorem o_19 {xs : Nat → Int32} {L i0 d nc ns P Q : Nat} {c : ME} {Z : AR → Prop} (hi : i0 + 8 ≤ L) (hL : L ≤ 100000) (hI : Iv 0 (-1) P Q c) (hR : Rq P c) (K : ∀ (P2 Q2 : Nat) (c2 : ME) (e : Nat), e ≤ 1 → Iv 0 (-1) P2 Q2 c2 → (Rq P2 c2) → Wp (a_scr L xs) (d + 90) 296 1844 [(4, vi (i0 : Int)), (3, .ref 67), (2, .ref 41), (1, .ref 0), (0, .ref a_SC)] [] (Wd P2 Q2 P2 P2 c2) (nc + e) (ns + 6 * e) Z) : Wp (a_scr L xs) (d + 90) 296 1011 [(4, vi (i0 : Int)), (3, .ref 67), (2, .ref 41), (1, .ref 0), (0, .ref a_SC)] [] (Wd P Q P P c) nc ns Z := by
  obtain ⟨x1, hx1⟩ : ∃ z, (xs (i0 + 1)).toInt = z := ⟨_, rfl⟩
  have x1r := c_rng (xs (i0 + 1))
  rw [hx1] at x1r
  obtain ⟨x2, hx2⟩ : ∃ z, (xs (i0 + 2)).toInt = z := ⟨_, rfl⟩
  have x2r := c_rng (xs (i0 + 2))
  rw [hx2] at x2r
  obtain ⟨x3, hx3⟩ : ∃ z, (xs (i0 + 3)).toInt = z := ⟨_, rfl⟩
  have x3r := c_rng (xs (i0 + 3))
  rw [hx3] at x3r
  obtain ⟨x4, hx4⟩ : ∃ z, (xs (i0 + 4)).toInt = z := ⟨_, rfl⟩
  have x4r := c_rng (xs (i0 + 4))
  rw [hx4] at x4r
  obtain ⟨x5, hx5⟩ : ∃ z, (xs (i0 + 5)).toInt = z := ⟨_, rfl⟩
  have x5r := c_rng (xs (i0 + 5))
  rw [hx5] at x5r
  obtain ⟨x6, hx6⟩ : ∃ z, (xs (i0 + 6)).toInt = z := ⟨_, rfl⟩
  have x6r := c_rng (xs (i0 + 6))
  rw [hx6] at x6r
  obtain ⟨x7, hx7⟩ : ∃ z, (xs (i0 + 7)).toInt = z := ⟨_, rfl⟩
  have x7r := c_rng (xs (i0 + 7))
  rw [hx7] at x7r
  have hT := rl_t hR
  have hU := rl_u hR
  have hP := iv_P hI
  have hQ := iv_Q hI
  refine q_aload_n rfl rfl ?_
  refine q_aload_n rfl rfl ?_
  refine q_iload rfl rfl ?_
  refine q_iconst rfl ?_
  refine v_iadd (v := (i0 : Int) + 1) rfl (by omega) ?_
  refine v_scr (j := i0 + 1) rfl (by omega) (by omega) hL hx1 ?_
  refine q_aload_n rfl rfl ?_
  refine q_iload rfl rfl ?_
  refine q_iconst rfl ?_
  refine v_iadd (v := (i0 : Int) + 2) rfl (by omega) ?_
  refine v_scr (j := i0 + 2) rfl (by omega) (by omega) hL hx2 ?_
  refine q_aload_n rfl rfl ?_
  refine q_iload rfl rfl ?_
  refine q_iconst rfl ?_
  refine v_iadd (v := (i0 : Int) + 3) rfl (by omega) ?_
  refine v_scr (j := i0 + 3) rfl (by omega) (by omega) hL hx3 ?_
  refine q_aload_n rfl rfl ?_
  refine q_call rfl rfl rfl rfl ?_
  refine q_aload rfl rfl ?_
  refine q_iconst rfl ?_
  refine q_aload_n rfl rfl ?_
  refine q_iload_n rfl rfl ?_
  refine q_iload_n rfl rfl ?_
  refine q_iload_n rfl rfl ?_
  refine v_cv rfl rfl rfl rfl (by decide) ⟨⟨rfl, rfl⟩, by decide, rfl⟩ (Nat.le_of_ble_eq_true rfl) (Nat.le_of_ble_eq_true rfl) (s_123 (a1 := x1) (a2 := x2) (a3 := x3) hI (show (-2147483648) ≤ x1 ∧ x1 ≤ 2147483647 from by omega) (show (-2147483648) ≤ x2 ∧ x2 ≤ 2147483647 from by omega) (show (-2147483648) ≤ x3 ∧ x3 ≤ 2147483647 from by omega) (fun c_1 hI_2 hF_3 => ?_) (fun c_4 y_7 hI_5 hF_6 hy_7 => ?_))
  · skip
    refine bk_thr (z := Int32.ofInt 1) rfl ⟨_, _, rfl⟩ rfl ?_
    refine bk_inl ?_
    refine q_istore rfl (by decide) ?_
    refine q_aload_n rfl rfl ?_
    refine q_aload_n rfl rfl ?_
    refine q_iload rfl rfl ?_
    refine q_iconst rfl ?_
    refine v_iadd (v := (i0 : Int) + 1) rfl (by omega) ?_
    refine v_scr (j := i0 + 1) rfl (by omega) (by omega) hL hx1 ?_
    refine q_aload_n rfl rfl ?_
    refine q_iload rfl rfl ?_
    refine q_iconst rfl ?_
    refine v_iadd (v := (i0 : Int) + 2) rfl (by omega) ?_
    refine v_scr (j := i0 + 2) rfl (by omega) (by omega) hL hx2 ?_
    refine q_aload_n rfl rfl ?_
    refine q_iload rfl rfl ?_
    refine q_iconst rfl ?_
    refine v_iadd (v := (i0 : Int) + 3) rfl (by omega) ?_
    refine v_scr (j := i0 + 3) rfl (by omega) (by omega) hL hx3 ?_
    refine v_cv rfl rfl rfl rfl (by decide) ⟨⟨rfl, rfl⟩, by decide, rfl⟩ (Nat.le_of_ble_eq_true rfl) (Nat.le_of_ble_eq_true rfl) (s_228 (a1 := x1) (a2 := x2) (a3 := x3) hI_2 (show (-2147483648) ≤ x1 ∧ x1 ≤ 2147483647 from by omega) (show (-2147483648) ≤ x2 ∧ x2 ≤ 2147483647 from by omega) (show (-2147483648) ≤ x3 ∧ x3 ≤ 2147483647 from by omega) (fun c_8 y_11 hI_9 hF_10 hy_11 => ?_))
    refine bk_inl ?_
    refine q_istore rfl (by decide) ?_
    refine q_goto (t := 1844) rfl (by decide) ?_
    refine Wp_ls [(4, vi (i0 : Int)), (3, .ref 67), (2, .ref 41), (1, .ref 0), (0, .ref a_SC)] (lsub_cons rfl (lsub_cons rfl (lsub_cons rfl (lsub_cons rfl (lsub_cons rfl lsub_nil))))) ?_
    have h_12 := ir_1_3 hI
    have kn_13 : Hid (c_1 1 3 = c 1 3) := hF_3 1 3 (fun q => q.elim (fun h => absurd h.1 (nn rfl)) (fun q => q.elim (fun h => absurd h (pn hP rfl rfl)) (fun q => q.elim (fun h => absurd h (pn hP rfl rfl)) (fun h => absurd h (nn rfl)))))
    have kn_14 : Hid (c_8 1 3 = c 1 3) := (hF_10 1 3 (fun q => q.elim (fun h => absurd h.1 (nn rfl)) (fun q => q.elim (fun h => absurd h (nn rfl)) (fun q => q.elim (fun h => absurd h (nn rfl)) (fun q => q.elim (fun h => absurd h (nn rfl)) (fun h => absurd h (nn rfl))))))).trans (hid kn_13)
    have h_15 : c_8 1 3 = c 1 3 := (hid kn_14)
    have h_16 := ir_41_2 hI
    have kn_17 : Hid (c_1 41 2 = c 41 2) := hF_3 41 2 (fun q => q.elim (fun h => absurd h.1 (nn rfl)) (fun q => q.elim (fun h => absurd h (pn hP rfl rfl)) (fun q => q.elim (fun h => absurd h (pn hP rfl rfl)) (fun h => absurd h (nn rfl)))))
    have kn_18 : Hid (c_8 41 2 = c 41 2) := (hF_10 41 2 (fun q => q.elim (fun h => absurd h.2 (ni rfl)) (fun q => q.elim (fun h => absurd h (nn rfl)) (fun q => q.elim (fun h => absurd h (nn rfl)) (fun q => q.elim (fun h => absurd h (nn rfl)) (fun h => absurd h (nn rfl))))))).trans (hid kn_17)
    have h_19 : c_8 41 2 = c 41 2 := (hid kn_18)
    exact K P Q c_8 1 (by decide) hI_9 ⟨by omega, ub_fr hU (fun j => (hF_10 2 j (fun q => q.elim (fun h => absurd h.1 (nn rfl)) (fun q => q.elim (fun h => absurd h (nn rfl)) (fun q => q.elim (fun h => absurd h (nn rfl)) (fun q => q.elim (fun h => absurd h (nn rfl)) (fun h => absurd h (nn rfl))))))).trans (hF_3 2 j (fun q => q.elim (fun h => absurd h.1 (nn rfl)) (fun q => q.elim (fun h => absurd h (pn hP rfl rfl)) (fun q => q.elim (fun h => absurd h (pn hP rfl rfl)) (fun h => absurd h (nn rfl))))))) (fun j => (hF_10 43 j (fun q => q.elim (fun h => absurd h.1 (nn rfl)) (fun q => q.elim (fun h => absurd h (nn rfl)) (fun q => q.elim (fun h => absurd h (nn rfl)) (fun q => q.elim (fun h => absurd h (nn rfl)) (fun h => absurd h (nn rfl))))))).trans (hF_3 43 j (fun q => q.elim (fun h => absurd h.1 (nn rfl)) (fun q => q.elim (fun h => absurd h (pn hP rfl rfl)) (fun q => q.elim (fun h => absurd h (pn hP rfl rfl)) (fun h => absurd h (nn rfl)))))))⟩
  refine bk_inl ?_
  refine v_i2l rfl (by omega) ?_
  refine v_ls rfl rfl (by decide) (by decide) (by decide) ?_
  refine q_goto (t := 19) rfl (by decide) ?_
  refine q_iconst rfl ?_
  refine q_iret rfl rfl ?_
  refine bk_inl ?_
  refine q_istore rfl (by decide) ?_
  refine q_aload_n rfl rfl ?_
  refine q_aload_n rfl rfl ?_
  refine q_iload rfl rfl ?_
  refine q_iconst rfl ?_
  refine v_iadd (v := (i0 : Int) + 1) rfl (by omega) ?_
  refine v_scr (j := i0 + 1) rfl (by omega) (by omega) hL hx1 ?_
  refine q_aload_n rfl rfl ?_
  refine q_iload rfl rfl ?_
  refine q_iconst rfl ?_
  refine v_iadd (v := (i0 : Int) + 2) rfl (by omega) ?_
  refine v_scr (j := i0 + 2) rfl (by omega) (by omega) hL hx2 ?_
  refine q_aload_n rfl rfl ?_
  refine q_iload rfl rfl ?_
  refine q_iconst rfl ?_
  refine v_iadd (v := (i0 : Int) + 3) rfl (by omega) ?_
  refine v_scr (j := i0 + 3) rfl (by omega) (by omega) hL hx3 ?_
  have hI_20 := iw_lx (a := 67) (j := 0) (v := y_7) hI_5 (by omega)
  refine v_cv rfl rfl rfl rfl (by decide) ⟨⟨rfl, rfl⟩, by decide, rfl⟩ (Nat.le_of_ble_eq_true rfl) (Nat.le_of_ble_eq_true rfl) (s_228 (a1 := x1) (a2 := x2) (a3 := x3) hI_20 (show (-2147483648) ≤ x1 ∧ x1 ≤ 2147483647 from by omega) (show (-2147483648) ≤ x2 ∧ x2 ≤ 2147483647 from by omega) (show (-2147483648) ≤ x3 ∧ x3 ≤ 2147483647 from by omega) (fun c_21 y_24 hI_22 hF_23 hy_24 => ?_))
  refine bk_inl ?_
  refine q_istore rfl (by decide) ?_
  refine q_goto (t := 1844) rfl (by decide) ?_
  refine Wp_ls [(4, vi (i0 : Int)), (3, .ref 67), (2, .ref 41), (1, .ref 0), (0, .ref a_SC)] (lsub_cons rfl (lsub_cons rfl (lsub_cons rfl (lsub_cons rfl (lsub_cons rfl lsub_nil))))) ?_
  have h_25 := ir_1_3 hI
  have kn_26 : Hid (c_4 1 3 = c 1 3) := hF_6 1 3 (fun q => q.elim (fun h => absurd h.1 (nn rfl)) (fun q => q.elim (fun h => absurd h (pn hP rfl rfl)) (fun q => q.elim (fun h => absurd h (pn hP rfl rfl)) (fun h => absurd h (nn rfl)))))
  have kn_27 : Hid (c_21 1 3 = c 1 3) := (hF_23 1 3 (fun q => q.elim (fun h => absurd h.1 (nn rfl)) (fun q => q.elim (fun h => absurd h (nn rfl)) (fun q => q.elim (fun h => absurd h (nn rfl)) (fun q => q.elim (fun h => absurd h (nn rfl)) (fun h => absurd h (nn rfl))))))).trans ((up_c (nn rfl)).trans (hid kn_26))
  have h_28 : c_21 1 3 = c 1 3 := (hid kn_27)
  have h_29 := ir_41_2 hI
  have kn_30 : Hid (c_4 41 2 = c 41 2) := hF_6 41 2 (fun q => q.elim (fun h => absurd h.1 (nn rfl)) (fun q => q.elim (fun h => absurd h (pn hP rfl rfl)) (fun q => q.elim (fun h => absurd h (pn hP rfl rfl)) (fun h => absurd h (nn rfl)))))
  have kn_31 : Hid (c_21 41 2 = c 41 2) := (hF_23 41 2 (fun q => q.elim (fun h => absurd h.2 (ni rfl)) (fun q => q.elim (fun h => absurd h (nn rfl)) (fun q => q.elim (fun h => absurd h (nn rfl)) (fun q => q.elim (fun h => absurd h (nn rfl)) (fun h => absurd h (nn rfl))))))).trans ((up_c (nn rfl)).trans (hid kn_30))
  have h_32 : c_21 41 2 = c 41 2 := (hid kn_31)
  exact K P Q c_21 0 (by decide) hI_22 ⟨by omega, ub_fr hU (fun j => (hF_23 2 j (fun q => q.elim (fun h => absurd h.1 (nn rfl)) (fun q => q.elim (fun h => absurd h (nn rfl)) (fun q => q.elim (fun h => absurd h (nn rfl)) (fun q => q.elim (fun h => absurd h (nn rfl)) (fun h => absurd h (nn rfl))))))).trans ((up_c (nn rfl)).trans (hF_6 2 j (fun q => q.elim (fun h => absurd h.1 (nn rfl)) (fun q => q.elim (fun h => absurd h (pn hP rfl rfl)) (fun q => q.elim (fun h => absurd h (pn hP rfl rfl)) (fun h => absurd h (nn rfl)))))))) (fun j => (hF_23 43 j (fun q => q.elim (fun h => absurd h.1 (nn rfl)) (fun q => q.elim (fun h => absurd h (nn rfl)) (fun q => q.elim (fun h => absurd h (nn rfl)) (fun q => q.elim (fun h => absurd h (nn rfl)) (fun h => absurd h (nn rfl))))))).trans ((up_c (nn rfl)).trans (hF_6 43 j (fun q => q.elim (fun h => absurd h.1 (nn rfl)) (fun q => q.elim (fun h => absurd h (pn hP rfl rfl)) (fun q => q.elim (fun h => absurd h (pn hP rfl rfl)) (fun h => absurd h (nn rfl))))))))⟩

