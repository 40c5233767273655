/-! ===== the calls of the law 2 ===== -/
set_option maxRecDepth 100000 in
set_option maxHeartbeats 4000000 in
theorem o_27 {xs : Nat → Int32} {L i0 d nc ns P Q : Nat} {c : ME} {Z : AR → Prop} (hi : i0 + 8 ≤ L) (hL : L ≤ 100000) (hI : Iv 0 (-1) P Q c) (K : ∀ (P2 Q2 : Nat) (c2 : ME) (e : Nat), e ≤ 1 → Iv 0 (-1) P2 Q2 c2 → Wp (a_scr L xs) (d + 90) 296 1844 [(4, vi (i0 : Int)), (3, .ref 67), (2, .ref 41), (1, .ref 0), (0, .ref a_SC)] [] (Wd P2 Q2 P2 P2 c2) (nc + e) (ns + 6 * e) Z) : Wp (a_scr L xs) (d + 90) 296 1328 [(4, vi (i0 : Int)), (3, .ref 67), (2, .ref 41), (1, .ref 0), (0, .ref a_SC)] [] (Wd P Q P P c) nc ns Z := by
  obtain ⟨x1, hx1⟩ : ∃ z, (xs (i0 + 1)).toInt = z := ⟨_, rfl⟩
  have x1r := c_rng (xs (i0 + 1))
  rw [hx1] at x1r
  obtain ⟨x2, hx2⟩ : ∃ z, (xs (i0 + 2)).toInt = z := ⟨_, rfl⟩
  have x2r := c_rng (xs (i0 + 2))
  rw [hx2] at x2r
  obtain ⟨x3, hx3⟩ : ∃ z, (xs (i0 + 3)).toInt = z := ⟨_, rfl⟩
  have x3r := c_rng (xs (i0 + 3))
  rw [hx3] at x3r
  obtain ⟨x4, hx4⟩ : ∃ z, (xs (i0 + 4)).toInt = z := ⟨_, rfl⟩
  have x4r := c_rng (xs (i0 + 4))
  rw [hx4] at x4r
  obtain ⟨x5, hx5⟩ : ∃ z, (xs (i0 + 5)).toInt = z := ⟨_, rfl⟩
  have x5r := c_rng (xs (i0 + 5))
  rw [hx5] at x5r
  obtain ⟨x6, hx6⟩ : ∃ z, (xs (i0 + 6)).toInt = z := ⟨_, rfl⟩
  have x6r := c_rng (xs (i0 + 6))
  rw [hx6] at x6r
  obtain ⟨x7, hx7⟩ : ∃ z, (xs (i0 + 7)).toInt = z := ⟨_, rfl⟩
  have x7r := c_rng (xs (i0 + 7))
  rw [hx7] at x7r
  have hP := iv_P hI
  have hQ := iv_Q hI
  refine q_aload_n rfl rfl ?_
  refine q_aload_n rfl rfl ?_
  refine q_iload rfl rfl ?_
  refine q_iconst rfl ?_
  refine v_iadd (v := (i0 : Int) + 1) rfl (by omega) ?_
  refine v_scr (j := i0 + 1) rfl (by omega) (by omega) hL hx1 ?_
  refine q_aload_n rfl rfl ?_
  refine q_iload rfl rfl ?_
  refine q_iconst rfl ?_
  refine v_iadd (v := (i0 : Int) + 2) rfl (by omega) ?_
  refine v_scr (j := i0 + 2) rfl (by omega) (by omega) hL hx2 ?_
  refine q_aload_n rfl rfl ?_
  refine q_call rfl rfl rfl rfl ?_
  refine q_aload_n rfl rfl ?_
  refine q_iconst rfl ?_
  refine q_aload_n rfl rfl ?_
  refine q_iload_n rfl rfl ?_
  refine q_iload_n rfl rfl ?_
  refine v_cv rfl rfl rfl rfl (by decide) ⟨⟨rfl, rfl⟩, by decide, rfl⟩ (Nat.le_of_ble_eq_true rfl) (Nat.le_of_ble_eq_true rfl) (s_108 (a1 := x1) (a2 := x2) hI (show (-2147483648) ≤ x1 ∧ x1 ≤ 2147483647 from by omega) (show (-2147483648) ≤ x2 ∧ x2 ≤ 2147483647 from by omega) (fun c_1 hI_2 hF_3 => ?_) (fun c_4 y_7 hI_5 hF_6 hy_7 => ?_))
  · skip
    refine bk_thr (z := Int32.ofInt 1) rfl ⟨_, _, rfl⟩ rfl ?_
    refine bk_inl ?_
    refine q_istore rfl (by decide) ?_
    refine q_aload_n rfl rfl ?_
    refine q_aload_n rfl rfl ?_
    refine q_iload rfl rfl ?_
    refine q_iconst rfl ?_
    refine v_iadd (v := (i0 : Int) + 1) rfl (by omega) ?_
    refine v_scr (j := i0 + 1) rfl (by omega) (by omega) hL hx1 ?_
    refine q_aload_n rfl rfl ?_
    refine q_iload rfl rfl ?_
    refine q_iconst rfl ?_
    refine v_iadd (v := (i0 : Int) + 2) rfl (by omega) ?_
    refine v_scr (j := i0 + 2) rfl (by omega) (by omega) hL hx2 ?_
    refine v_cv rfl rfl rfl rfl (by decide) ⟨⟨rfl, rfl⟩, by decide, rfl⟩ (Nat.le_of_ble_eq_true rfl) (Nat.le_of_ble_eq_true rfl) (s_242 (a1 := x1) (a2 := x2) hI_2 (show (-2147483648) ≤ x1 ∧ x1 ≤ 2147483647 from by omega) (show (-2147483648) ≤ x2 ∧ x2 ≤ 2147483647 from by omega) (fun c_8 y_11 hI_9 hF_10 hy_11 => ?_))
    refine bk_inl ?_
    refine q_istore rfl (by decide) ?_
    refine q_goto (t := 1844) rfl (by decide) ?_
    refine Wp_ls [(4, vi (i0 : Int)), (3, .ref 67), (2, .ref 41), (1, .ref 0), (0, .ref a_SC)] (lsub_cons rfl (lsub_cons rfl (lsub_cons rfl (lsub_cons rfl (lsub_cons rfl lsub_nil))))) ?_
    exact K P Q c_8 1 (by decide) hI_9
  refine bk_inl ?_
  refine v_i2l rfl (by omega) ?_
  refine v_ls rfl rfl (by decide) (by decide) (by decide) ?_
  refine q_goto (t := 17) rfl (by decide) ?_
  refine q_iconst rfl ?_
  refine q_iret rfl rfl ?_
  refine bk_inl ?_
  refine q_istore rfl (by decide) ?_
  refine q_aload_n rfl rfl ?_
  refine q_aload_n rfl rfl ?_
  refine q_iload rfl rfl ?_
  refine q_iconst rfl ?_
  refine v_iadd (v := (i0 : Int) + 1) rfl (by omega) ?_
  refine v_scr (j := i0 + 1) rfl (by omega) (by omega) hL hx1 ?_
  refine q_aload_n rfl rfl ?_
  refine q_iload rfl rfl ?_
  refine q_iconst rfl ?_
  refine v_iadd (v := (i0 : Int) + 2) rfl (by omega) ?_
  refine v_scr (j := i0 + 2) rfl (by omega) (by omega) hL hx2 ?_
  have hI_12 := iw_lx (a := 67) (j := 0) (v := y_7) hI_5 (by omega)
  refine v_cv rfl rfl rfl rfl (by decide) ⟨⟨rfl, rfl⟩, by decide, rfl⟩ (Nat.le_of_ble_eq_true rfl) (Nat.le_of_ble_eq_true rfl) (s_242 (a1 := x1) (a2 := x2) hI_12 (show (-2147483648) ≤ x1 ∧ x1 ≤ 2147483647 from by omega) (show (-2147483648) ≤ x2 ∧ x2 ≤ 2147483647 from by omega) (fun c_13 y_16 hI_14 hF_15 hy_16 => ?_))
  refine bk_inl ?_
  refine q_istore rfl (by decide) ?_
  refine q_goto (t := 1844) rfl (by decide) ?_
  refine Wp_ls [(4, vi (i0 : Int)), (3, .ref 67), (2, .ref 41), (1, .ref 0), (0, .ref a_SC)] (lsub_cons rfl (lsub_cons rfl (lsub_cons rfl (lsub_cons rfl (lsub_cons rfl lsub_nil))))) ?_
  exact K P Q c_13 0 (by decide) hI_14

set_option maxRecDepth 100000 in
set_option maxHeartbeats 4000000 in
theorem o_28 {xs : Nat → Int32} {L i0 d nc ns P Q : Nat} {c : ME} {Z : AR → Prop} (hi : i0 + 8 ≤ L) (hL : L ≤ 100000) (hI : Iv 0 (-1) P Q c) (K : ∀ (P2 Q2 : Nat) (c2 : ME) (e : Nat), e ≤ 1 → Iv 0 (-1) P2 Q2 c2 → Wp (a_scr L xs) (d + 90) 296 1844 [(4, vi (i0 : Int)), (3, .ref 67), (2, .ref 41), (1, .ref 0), (0, .ref a_SC)] [] (Wd P2 Q2 P2 P2 c2) (nc + e) (ns + 6 * e) Z) : Wp (a_scr L xs) (d + 90) 296 1368 [(4, vi (i0 : Int)), (3, .ref 67), (2, .ref 41), (1, .ref 0), (0, .ref a_SC)] [] (Wd P Q P P c) nc ns Z := by
  obtain ⟨x1, hx1⟩ : ∃ z, (xs (i0 + 1)).toInt = z := ⟨_, rfl⟩
  have x1r := c_rng (xs (i0 + 1))
  rw [hx1] at x1r
  obtain ⟨x2, hx2⟩ : ∃ z, (xs (i0 + 2)).toInt = z := ⟨_, rfl⟩
  have x2r := c_rng (xs (i0 + 2))
  rw [hx2] at x2r
  obtain ⟨x3, hx3⟩ : ∃ z, (xs (i0 + 3)).toInt = z := ⟨_, rfl⟩
  have x3r := c_rng (xs (i0 + 3))
  rw [hx3] at x3r
  obtain ⟨x4, hx4⟩ : ∃ z, (xs (i0 + 4)).toInt = z := ⟨_, rfl⟩
  have x4r := c_rng (xs (i0 + 4))
  rw [hx4] at x4r
  obtain ⟨x5, hx5⟩ : ∃ z, (xs (i0 + 5)).toInt = z := ⟨_, rfl⟩
  have x5r := c_rng (xs (i0 + 5))
  rw [hx5] at x5r
  obtain ⟨x6, hx6⟩ : ∃ z, (xs (i0 + 6)).toInt = z := ⟨_, rfl⟩
  have x6r := c_rng (xs (i0 + 6))
  rw [hx6] at x6r
  obtain ⟨x7, hx7⟩ : ∃ z, (xs (i0 + 7)).toInt = z := ⟨_, rfl⟩
  have x7r := c_rng (xs (i0 + 7))
  rw [hx7] at x7r
  have hP := iv_P hI
  have hQ := iv_Q hI
  refine q_aload_n rfl rfl ?_
  refine v_cv rfl rfl rfl rfl (by decide) ⟨⟨rfl, rfl⟩, by decide, rfl⟩ (Nat.le_of_ble_eq_true rfl) (Nat.le_of_ble_eq_true rfl) (s_101 hI (fun y_1 hy_1 => ?_))
  refine bk_inl ?_
  refine q_pop rfl rfl ?_
  refine q_aload_n rfl rfl ?_
  refine v_cv rfl rfl rfl rfl (by decide) ⟨⟨rfl, rfl⟩, by decide, rfl⟩ (Nat.le_of_ble_eq_true rfl) (Nat.le_of_ble_eq_true rfl) (s_243 hI (fun c_2 y_5 hI_3 hF_4 hy_5 => ?_))
  refine bk_inl ?_
  refine q_pop rfl rfl ?_
  refine q_goto (t := 1844) rfl (by decide) ?_
  refine Wp_ls [(4, vi (i0 : Int)), (3, .ref 67), (2, .ref 41), (1, .ref 0), (0, .ref a_SC)] (lsub_cons rfl (lsub_cons rfl (lsub_cons rfl (lsub_cons rfl (lsub_cons rfl lsub_nil))))) ?_
  exact K P Q c_2 0 (by decide) hI_3

set_option maxRecDepth 100000 in
set_option maxHeartbeats 4000000 in
theorem o_29 {xs : Nat → Int32} {L i0 d nc ns P Q : Nat} {c : ME} {Z : AR → Prop} (hi : i0 + 8 ≤ L) (hL : L ≤ 100000) (hI : Iv 0 (-1) P Q c) (K : ∀ (P2 Q2 : Nat) (c2 : ME) (e : Nat), e ≤ 1 → Iv 0 (-1) P2 Q2 c2 → Wp (a_scr L xs) (d + 90) 296 1844 [(4, vi (i0 : Int)), (3, .ref 67), (2, .ref 41), (1, .ref 0), (0, .ref a_SC)] [] (Wd P2 Q2 P2 P2 c2) (nc + e) (ns + 6 * e) Z) : Wp (a_scr L xs) (d + 90) 296 1381 [(4, vi (i0 : Int)), (3, .ref 67), (2, .ref 41), (1, .ref 0), (0, .ref a_SC)] [] (Wd P Q P P c) nc ns Z := by
  obtain ⟨x1, hx1⟩ : ∃ z, (xs (i0 + 1)).toInt = z := ⟨_, rfl⟩
  have x1r := c_rng (xs (i0 + 1))
  rw [hx1] at x1r
  obtain ⟨x2, hx2⟩ : ∃ z, (xs (i0 + 2)).toInt = z := ⟨_, rfl⟩
  have x2r := c_rng (xs (i0 + 2))
  rw [hx2] at x2r
  obtain ⟨x3, hx3⟩ : ∃ z, (xs (i0 + 3)).toInt = z := ⟨_, rfl⟩
  have x3r := c_rng (xs (i0 + 3))
  rw [hx3] at x3r
  obtain ⟨x4, hx4⟩ : ∃ z, (xs (i0 + 4)).toInt = z := ⟨_, rfl⟩
  have x4r := c_rng (xs (i0 + 4))
  rw [hx4] at x4r
  obtain ⟨x5, hx5⟩ : ∃ z, (xs (i0 + 5)).toInt = z := ⟨_, rfl⟩
  have x5r := c_rng (xs (i0 + 5))
  rw [hx5] at x5r
  obtain ⟨x6, hx6⟩ : ∃ z, (xs (i0 + 6)).toInt = z := ⟨_, rfl⟩
  have x6r := c_rng (xs (i0 + 6))
  rw [hx6] at x6r
  obtain ⟨x7, hx7⟩ : ∃ z, (xs (i0 + 7)).toInt = z := ⟨_, rfl⟩
  have x7r := c_rng (xs (i0 + 7))
  rw [hx7] at x7r
  have hP := iv_P hI
  have hQ := iv_Q hI
  refine q_aload_n rfl rfl ?_
  refine q_aload_n rfl rfl ?_
  refine q_iload rfl rfl ?_
  refine q_iconst rfl ?_
  refine v_iadd (v := (i0 : Int) + 1) rfl (by omega) ?_
  refine v_scr (j := i0 + 1) rfl (by omega) (by omega) hL hx1 ?_
  refine q_aload_n rfl rfl ?_
  refine q_call rfl rfl rfl rfl ?_
  refine q_aload_n rfl rfl ?_
  refine q_iconst rfl ?_
  refine q_aload_n rfl rfl ?_
  refine q_iload_n rfl rfl ?_
  refine v_cv rfl rfl rfl rfl (by decide) ⟨⟨rfl, rfl⟩, by decide, rfl⟩ (Nat.le_of_ble_eq_true rfl) (Nat.le_of_ble_eq_true rfl) (s_109 (a1 := x1) hI (show (-2147483648) ≤ x1 ∧ x1 ≤ 2147483647 from by omega) (fun c_1 hI_2 hF_3 => ?_) (fun c_4 y_7 hI_5 hF_6 hy_7 => ?_))
  · skip
    refine bk_thr (z := Int32.ofInt 1) rfl ⟨_, _, rfl⟩ rfl ?_
    refine bk_inl ?_
    refine q_istore rfl (by decide) ?_
    refine q_aload_n rfl rfl ?_
    refine q_aload_n rfl rfl ?_
    refine q_iload rfl rfl ?_
    refine q_iconst rfl ?_
    refine v_iadd (v := (i0 : Int) + 1) rfl (by omega) ?_
    refine v_scr (j := i0 + 1) rfl (by omega) (by omega) hL hx1 ?_
    refine v_cv rfl rfl rfl rfl (by decide) ⟨⟨rfl, rfl⟩, by decide, rfl⟩ (Nat.le_of_ble_eq_true rfl) (Nat.le_of_ble_eq_true rfl) (s_244 (a1 := x1) hI_2 (show (-2147483648) ≤ x1 ∧ x1 ≤ 2147483647 from by omega) (fun c_8 y_11 hI_9 hF_10 hy_11 => ?_))
    refine bk_inl ?_
    refine q_istore rfl (by decide) ?_
    refine q_goto (t := 1844) rfl (by decide) ?_
    refine Wp_ls [(4, vi (i0 : Int)), (3, .ref 67), (2, .ref 41), (1, .ref 0), (0, .ref a_SC)] (lsub_cons rfl (lsub_cons rfl (lsub_cons rfl (lsub_cons rfl (lsub_cons rfl lsub_nil))))) ?_
    exact K P Q c_8 1 (by decide) hI_9
  refine bk_inl ?_
  refine v_i2l rfl (by omega) ?_
  refine v_ls rfl rfl (by decide) (by decide) (by decide) ?_
  refine q_goto (t := 15) rfl (by decide) ?_
  refine q_iconst rfl ?_
  refine q_iret rfl rfl ?_
  refine bk_inl ?_
  refine q_istore rfl (by decide) ?_
  refine q_aload_n rfl rfl ?_
  refine q_aload_n rfl rfl ?_
  refine q_iload rfl rfl ?_
  refine q_iconst rfl ?_
  refine v_iadd (v := (i0 : Int) + 1) rfl (by omega) ?_
  refine v_scr (j := i0 + 1) rfl (by omega) (by omega) hL hx1 ?_
  have hI_12 := iw_lx (a := 67) (j := 0) (v := y_7) hI_5 (by omega)
  refine v_cv rfl rfl rfl rfl (by decide) ⟨⟨rfl, rfl⟩, by decide, rfl⟩ (Nat.le_of_ble_eq_true rfl) (Nat.le_of_ble_eq_true rfl) (s_244 (a1 := x1) hI_12 (show (-2147483648) ≤ x1 ∧ x1 ≤ 2147483647 from by omega) (fun c_13 y_16 hI_14 hF_15 hy_16 => ?_))
  refine bk_inl ?_
  refine q_istore rfl (by decide) ?_
  refine q_goto (t := 1844) rfl (by decide) ?_
  refine Wp_ls [(4, vi (i0 : Int)), (3, .ref 67), (2, .ref 41), (1, .ref 0), (0, .ref a_SC)] (lsub_cons rfl (lsub_cons rfl (lsub_cons rfl (lsub_cons rfl (lsub_cons rfl lsub_nil))))) ?_
  exact K P Q c_13 0 (by decide) hI_14

set_option maxRecDepth 100000 in
set_option maxHeartbeats 4000000 in
theorem o_30 {xs : Nat → Int32} {L i0 d nc ns P Q : Nat} {c : ME} {Z : AR → Prop} (hi : i0 + 8 ≤ L) (hL : L ≤ 100000) (hI : Iv 0 (-1) P Q c) (K : ∀ (P2 Q2 : Nat) (c2 : ME) (e : Nat), e ≤ 1 → Iv 0 (-1) P2 Q2 c2 → Wp (a_scr L xs) (d + 90) 296 1844 [(4, vi (i0 : Int)), (3, .ref 67), (2, .ref 41), (1, .ref 0), (0, .ref a_SC)] [] (Wd P2 Q2 P2 P2 c2) (nc + e) (ns + 6 * e) Z) : Wp (a_scr L xs) (d + 90) 296 1409 [(4, vi (i0 : Int)), (3, .ref 67), (2, .ref 41), (1, .ref 0), (0, .ref a_SC)] [] (Wd P Q P P c) nc ns Z := by
  obtain ⟨x1, hx1⟩ : ∃ z, (xs (i0 + 1)).toInt = z := ⟨_, rfl⟩
  have x1r := c_rng (xs (i0 + 1))
  rw [hx1] at x1r
  obtain ⟨x2, hx2⟩ : ∃ z, (xs (i0 + 2)).toInt = z := ⟨_, rfl⟩
  have x2r := c_rng (xs (i0 + 2))
  rw [hx2] at x2r
  obtain ⟨x3, hx3⟩ : ∃ z, (xs (i0 + 3)).toInt = z := ⟨_, rfl⟩
  have x3r := c_rng (xs (i0 + 3))
  rw [hx3] at x3r
  obtain ⟨x4, hx4⟩ : ∃ z, (xs (i0 + 4)).toInt = z := ⟨_, rfl⟩
  have x4r := c_rng (xs (i0 + 4))
  rw [hx4] at x4r
  obtain ⟨x5, hx5⟩ : ∃ z, (xs (i0 + 5)).toInt = z := ⟨_, rfl⟩
  have x5r := c_rng (xs (i0 + 5))
  rw [hx5] at x5r
  obtain ⟨x6, hx6⟩ : ∃ z, (xs (i0 + 6)).toInt = z := ⟨_, rfl⟩
  have x6r := c_rng (xs (i0 + 6))
  rw [hx6] at x6r
  obtain ⟨x7, hx7⟩ : ∃ z, (xs (i0 + 7)).toInt = z := ⟨_, rfl⟩
  have x7r := c_rng (xs (i0 + 7))
  rw [hx7] at x7r
  have hP := iv_P hI
  have hQ := iv_Q hI
  refine q_aload_n rfl rfl ?_
  refine q_aload_n rfl rfl ?_
  refine q_iload rfl rfl ?_
  refine q_iconst rfl ?_
  refine v_iadd (v := (i0 : Int) + 1) rfl (by omega) ?_
  refine v_scr (j := i0 + 1) rfl (by omega) (by omega) hL hx1 ?_
  refine q_aload_n rfl rfl ?_
  refine q_call rfl rfl rfl rfl ?_
  refine q_aload_n rfl rfl ?_
  refine q_iconst rfl ?_
  refine q_aload_n rfl rfl ?_
  refine q_iload_n rfl rfl ?_
  refine v_cv rfl rfl rfl rfl (by decide) ⟨⟨rfl, rfl⟩, by decide, rfl⟩ (Nat.le_of_ble_eq_true rfl) (Nat.le_of_ble_eq_true rfl) (s_98 (a1 := x1) hI (show (-2147483648) ≤ x1 ∧ x1 ≤ 2147483647 from by omega) (fun c_1 hI_2 hF_3 => ?_) (fun c_4 y_7 hI_5 hF_6 hy_7 => ?_))
  · skip
    refine bk_thr (z := Int32.ofInt 1) rfl ⟨_, _, rfl⟩ rfl ?_
    refine bk_inl ?_
    refine q_istore rfl (by decide) ?_
    refine q_aload_n rfl rfl ?_
    refine q_aload_n rfl rfl ?_
    refine q_iload rfl rfl ?_
    refine q_iconst rfl ?_
    refine v_iadd (v := (i0 : Int) + 1) rfl (by omega) ?_
    refine v_scr (j := i0 + 1) rfl (by omega) (by omega) hL hx1 ?_
    refine v_cv rfl rfl rfl rfl (by decide) ⟨⟨rfl, rfl⟩, by decide, rfl⟩ (Nat.le_of_ble_eq_true rfl) (Nat.le_of_ble_eq_true rfl) (s_245 (a1 := x1) hI_2 (show (-2147483648) ≤ x1 ∧ x1 ≤ 2147483647 from by omega) (fun c_8 y_11 hI_9 hF_10 hy_11 => ?_))
    refine bk_inl ?_
    refine q_istore rfl (by decide) ?_
    refine q_goto (t := 1844) rfl (by decide) ?_
    refine Wp_ls [(4, vi (i0 : Int)), (3, .ref 67), (2, .ref 41), (1, .ref 0), (0, .ref a_SC)] (lsub_cons rfl (lsub_cons rfl (lsub_cons rfl (lsub_cons rfl (lsub_cons rfl lsub_nil))))) ?_
    exact K P Q c_8 1 (by decide) hI_9
  refine bk_inl ?_
  refine v_i2l rfl (by omega) ?_
  refine v_ls rfl rfl (by decide) (by decide) (by decide) ?_
  refine q_goto (t := 15) rfl (by decide) ?_
  refine q_iconst rfl ?_
  refine q_iret rfl rfl ?_
  refine bk_inl ?_
  refine q_istore rfl (by decide) ?_
  refine q_aload_n rfl rfl ?_
  refine q_aload_n rfl rfl ?_
  refine q_iload rfl rfl ?_
  refine q_iconst rfl ?_
  refine v_iadd (v := (i0 : Int) + 1) rfl (by omega) ?_
  refine v_scr (j := i0 + 1) rfl (by omega) (by omega) hL hx1 ?_
  have hI_12 := iw_lx (a := 67) (j := 0) (v := y_7) hI_5 (by omega)
  refine v_cv rfl rfl rfl rfl (by decide) ⟨⟨rfl, rfl⟩, by decide, rfl⟩ (Nat.le_of_ble_eq_true rfl) (Nat.le_of_ble_eq_true rfl) (s_245 (a1 := x1) hI_12 (show (-2147483648) ≤ x1 ∧ x1 ≤ 2147483647 from by omega) (fun c_13 y_16 hI_14 hF_15 hy_16 => ?_))
  refine bk_inl ?_
  refine q_istore rfl (by decide) ?_
  refine q_goto (t := 1844) rfl (by decide) ?_
  refine Wp_ls [(4, vi (i0 : Int)), (3, .ref 67), (2, .ref 41), (1, .ref 0), (0, .ref a_SC)] (lsub_cons rfl (lsub_cons rfl (lsub_cons rfl (lsub_cons rfl (lsub_cons rfl lsub_nil))))) ?_
  exact K P Q c_13 0 (by decide) hI_14

set_option maxRecDepth 100000 in
set_option maxHeartbeats 4000000 in
theorem o_31 {xs : Nat → Int32} {L i0 d nc ns P Q : Nat} {c : ME} {Z : AR → Prop} (hi : i0 + 8 ≤ L) (hL : L ≤ 100000) (hI : Iv 0 (-1) P Q c) (K : ∀ (P2 Q2 : Nat) (c2 : ME) (e : Nat), e ≤ 1 → Iv 0 (-1) P2 Q2 c2 → Wp (a_scr L xs) (d + 90) 296 1844 [(4, vi (i0 : Int)), (3, .ref 67), (2, .ref 41), (1, .ref 0), (0, .ref a_SC)] [] (Wd P2 Q2 P2 P2 c2) (nc + e) (ns + 6 * e) Z) : Wp (a_scr L xs) (d + 90) 296 1437 [(4, vi (i0 : Int)), (3, .ref 67), (2, .ref 41), (1, .ref 0), (0, .ref a_SC)] [] (Wd P Q P P c) nc ns Z := by
  obtain ⟨x1, hx1⟩ : ∃ z, (xs (i0 + 1)).toInt = z := ⟨_, rfl⟩
  have x1r := c_rng (xs (i0 + 1))
  rw [hx1] at x1r
  obtain ⟨x2, hx2⟩ : ∃ z, (xs (i0 + 2)).toInt = z := ⟨_, rfl⟩
  have x2r := c_rng (xs (i0 + 2))
  rw [hx2] at x2r
  obtain ⟨x3, hx3⟩ : ∃ z, (xs (i0 + 3)).toInt = z := ⟨_, rfl⟩
  have x3r := c_rng (xs (i0 + 3))
  rw [hx3] at x3r
  obtain ⟨x4, hx4⟩ : ∃ z, (xs (i0 + 4)).toInt = z := ⟨_, rfl⟩
  have x4r := c_rng (xs (i0 + 4))
  rw [hx4] at x4r
  obtain ⟨x5, hx5⟩ : ∃ z, (xs (i0 + 5)).toInt = z := ⟨_, rfl⟩
  have x5r := c_rng (xs (i0 + 5))
  rw [hx5] at x5r
  obtain ⟨x6, hx6⟩ : ∃ z, (xs (i0 + 6)).toInt = z := ⟨_, rfl⟩
  have x6r := c_rng (xs (i0 + 6))
  rw [hx6] at x6r
  obtain ⟨x7, hx7⟩ : ∃ z, (xs (i0 + 7)).toInt = z := ⟨_, rfl⟩
  have x7r := c_rng (xs (i0 + 7))
  rw [hx7] at x7r
  have hP := iv_P hI
  have hQ := iv_Q hI
  refine q_aload_n rfl rfl ?_
  refine q_aload_n rfl rfl ?_
  refine q_iload rfl rfl ?_
  refine q_iconst rfl ?_
  refine v_iadd (v := (i0 : Int) + 1) rfl (by omega) ?_
  refine v_scr (j := i0 + 1) rfl (by omega) (by omega) hL hx1 ?_
  refine q_aload_n rfl rfl ?_
  refine q_call rfl rfl rfl rfl ?_
  refine q_aload_n rfl rfl ?_
  refine q_iconst rfl ?_
  refine q_aload_n rfl rfl ?_
  refine q_iload_n rfl rfl ?_
  refine v_cv rfl rfl rfl rfl (by decide) ⟨⟨rfl, rfl⟩, by decide, rfl⟩ (Nat.le_of_ble_eq_true rfl) (Nat.le_of_ble_eq_true rfl) (s_99 (a1 := x1) hI (show (-2147483648) ≤ x1 ∧ x1 ≤ 2147483647 from by omega) (fun c_1 hI_2 hF_3 => ?_) (fun c_4 y_7 hI_5 hF_6 hy_7 => ?_))
  · skip
    refine bk_thr (z := Int32.ofInt 1) rfl ⟨_, _, rfl⟩ rfl ?_
    refine bk_inl ?_
    refine q_istore rfl (by decide) ?_
    refine q_aload_n rfl rfl ?_
    refine q_aload_n rfl rfl ?_
    refine q_iload rfl rfl ?_
    refine q_iconst rfl ?_
    refine v_iadd (v := (i0 : Int) + 1) rfl (by omega) ?_
    refine v_scr (j := i0 + 1) rfl (by omega) (by omega) hL hx1 ?_
    refine v_cv rfl rfl rfl rfl (by decide) ⟨⟨rfl, rfl⟩, by decide, rfl⟩ (Nat.le_of_ble_eq_true rfl) (Nat.le_of_ble_eq_true rfl) (s_246 (a1 := x1) hI_2 (show (-2147483648) ≤ x1 ∧ x1 ≤ 2147483647 from by omega) (fun c_8 y_11 hI_9 hF_10 hy_11 => ?_))
    refine bk_inl ?_
    refine q_istore rfl (by decide) ?_
    refine q_goto (t := 1844) rfl (by decide) ?_
    refine Wp_ls [(4, vi (i0 : Int)), (3, .ref 67), (2, .ref 41), (1, .ref 0), (0, .ref a_SC)] (lsub_cons rfl (lsub_cons rfl (lsub_cons rfl (lsub_cons rfl (lsub_cons rfl lsub_nil))))) ?_
    exact K P Q c_8 1 (by decide) hI_9
  refine bk_inl ?_
  refine v_i2l rfl (by omega) ?_
  refine v_ls rfl rfl (by decide) (by decide) (by decide) ?_
  refine q_goto (t := 15) rfl (by decide) ?_
  refine q_iconst rfl ?_
  refine q_iret rfl rfl ?_
  refine bk_inl ?_
  refine q_istore rfl (by decide) ?_
  refine q_aload_n rfl rfl ?_
  refine q_aload_n rfl rfl ?_
  refine q_iload rfl rfl ?_
  refine q_iconst rfl ?_
  refine v_iadd (v := (i0 : Int) + 1) rfl (by omega) ?_
  refine v_scr (j := i0 + 1) rfl (by omega) (by omega) hL hx1 ?_
  have hI_12 := iw_lx (a := 67) (j := 0) (v := y_7) hI_5 (by omega)
  refine v_cv rfl rfl rfl rfl (by decide) ⟨⟨rfl, rfl⟩, by decide, rfl⟩ (Nat.le_of_ble_eq_true rfl) (Nat.le_of_ble_eq_true rfl) (s_246 (a1 := x1) hI_12 (show (-2147483648) ≤ x1 ∧ x1 ≤ 2147483647 from by omega) (fun c_13 y_16 hI_14 hF_15 hy_16 => ?_))
  refine bk_inl ?_
  refine q_istore rfl (by decide) ?_
  refine q_goto (t := 1844) rfl (by decide) ?_
  refine Wp_ls [(4, vi (i0 : Int)), (3, .ref 67), (2, .ref 41), (1, .ref 0), (0, .ref a_SC)] (lsub_cons rfl (lsub_cons rfl (lsub_cons rfl (lsub_cons rfl (lsub_cons rfl lsub_nil))))) ?_
  exact K P Q c_13 0 (by decide) hI_14

set_option maxRecDepth 100000 in
set_option maxHeartbeats 4000000 in
theorem o_32 {xs : Nat → Int32} {L i0 d nc ns P Q : Nat} {c : ME} {Z : AR → Prop} (hi : i0 + 8 ≤ L) (hL : L ≤ 100000) (hI : Iv 0 (-1) P Q c) (K : ∀ (P2 Q2 : Nat) (c2 : ME) (e : Nat), e ≤ 1 → Iv 0 (-1) P2 Q2 c2 → Wp (a_scr L xs) (d + 90) 296 1844 [(4, vi (i0 : Int)), (3, .ref 67), (2, .ref 41), (1, .ref 0), (0, .ref a_SC)] [] (Wd P2 Q2 P2 P2 c2) (nc + e) (ns + 6 * e) Z) : Wp (a_scr L xs) (d + 90) 296 1465 [(4, vi (i0 : Int)), (3, .ref 67), (2, .ref 41), (1, .ref 0), (0, .ref a_SC)] [] (Wd P Q P P c) nc ns Z := by
  obtain ⟨x1, hx1⟩ : ∃ z, (xs (i0 + 1)).toInt = z := ⟨_, rfl⟩
  have x1r := c_rng (xs (i0 + 1))
  rw [hx1] at x1r
  obtain ⟨x2, hx2⟩ : ∃ z, (xs (i0 + 2)).toInt = z := ⟨_, rfl⟩
  have x2r := c_rng (xs (i0 + 2))
  rw [hx2] at x2r
  obtain ⟨x3, hx3⟩ : ∃ z, (xs (i0 + 3)).toInt = z := ⟨_, rfl⟩
  have x3r := c_rng (xs (i0 + 3))
  rw [hx3] at x3r
  obtain ⟨x4, hx4⟩ : ∃ z, (xs (i0 + 4)).toInt = z := ⟨_, rfl⟩
  have x4r := c_rng (xs (i0 + 4))
  rw [hx4] at x4r
  obtain ⟨x5, hx5⟩ : ∃ z, (xs (i0 + 5)).toInt = z := ⟨_, rfl⟩
  have x5r := c_rng (xs (i0 + 5))
  rw [hx5] at x5r
  obtain ⟨x6, hx6⟩ : ∃ z, (xs (i0 + 6)).toInt = z := ⟨_, rfl⟩
  have x6r := c_rng (xs (i0 + 6))
  rw [hx6] at x6r
  obtain ⟨x7, hx7⟩ : ∃ z, (xs (i0 + 7)).toInt = z := ⟨_, rfl⟩
  have x7r := c_rng (xs (i0 + 7))
  rw [hx7] at x7r
  have hP := iv_P hI
  have hQ := iv_Q hI
  refine q_aload_n rfl rfl ?_
  refine q_aload_n rfl rfl ?_
  refine q_iload rfl rfl ?_
  refine q_iconst rfl ?_
  refine v_iadd (v := (i0 : Int) + 1) rfl (by omega) ?_
  refine v_scr (j := i0 + 1) rfl (by omega) (by omega) hL hx1 ?_
  refine q_aload_n rfl rfl ?_
  refine q_call rfl rfl rfl rfl ?_
  refine q_aload_n rfl rfl ?_
  refine q_iconst rfl ?_
  refine q_aload_n rfl rfl ?_
  refine q_iload_n rfl rfl ?_
  refine v_cv rfl rfl rfl rfl (by decide) ⟨⟨rfl, rfl⟩, by decide, rfl⟩ (Nat.le_of_ble_eq_true rfl) (Nat.le_of_ble_eq_true rfl) (s_115 (a1 := x1) hI (show (-2147483648) ≤ x1 ∧ x1 ≤ 2147483647 from by omega) (fun c_1 hI_2 hF_3 => ?_) (fun c_4 y_7 hI_5 hF_6 hy_7 => ?_))
  · skip
    refine bk_thr (z := Int32.ofInt 1) rfl ⟨_, _, rfl⟩ rfl ?_
    refine bk_inl ?_
    refine q_istore rfl (by decide) ?_
    refine q_aload_n rfl rfl ?_
    refine q_aload_n rfl rfl ?_
    refine q_iload rfl rfl ?_
    refine q_iconst rfl ?_
    refine v_iadd (v := (i0 : Int) + 1) rfl (by omega) ?_
    refine v_scr (j := i0 + 1) rfl (by omega) (by omega) hL hx1 ?_
    refine v_cv rfl rfl rfl rfl (by decide) ⟨⟨rfl, rfl⟩, by decide, rfl⟩ (Nat.le_of_ble_eq_true rfl) (Nat.le_of_ble_eq_true rfl) (s_247 (a1 := x1) hI_2 (show (-2147483648) ≤ x1 ∧ x1 ≤ 2147483647 from by omega) (fun c_8 y_11 hI_9 hF_10 hy_11 => ?_))
    refine bk_inl ?_
    refine q_istore rfl (by decide) ?_
    refine q_goto (t := 1844) rfl (by decide) ?_
    refine Wp_ls [(4, vi (i0 : Int)), (3, .ref 67), (2, .ref 41), (1, .ref 0), (0, .ref a_SC)] (lsub_cons rfl (lsub_cons rfl (lsub_cons rfl (lsub_cons rfl (lsub_cons rfl lsub_nil))))) ?_
    exact K P Q c_8 1 (by decide) hI_9
  refine bk_inl ?_
  refine v_i2l rfl (by omega) ?_
  refine v_ls rfl rfl (by decide) (by decide) (by decide) ?_
  refine q_goto (t := 15) rfl (by decide) ?_
  refine q_iconst rfl ?_
  refine q_iret rfl rfl ?_
  refine bk_inl ?_
  refine q_istore rfl (by decide) ?_
  refine q_aload_n rfl rfl ?_
  refine q_aload_n rfl rfl ?_
  refine q_iload rfl rfl ?_
  refine q_iconst rfl ?_
  refine v_iadd (v := (i0 : Int) + 1) rfl (by omega) ?_
  refine v_scr (j := i0 + 1) rfl (by omega) (by omega) hL hx1 ?_
  have hI_12 := iw_lx (a := 67) (j := 0) (v := y_7) hI_5 (by omega)
  refine v_cv rfl rfl rfl rfl (by decide) ⟨⟨rfl, rfl⟩, by decide, rfl⟩ (Nat.le_of_ble_eq_true rfl) (Nat.le_of_ble_eq_true rfl) (s_247 (a1 := x1) hI_12 (show (-2147483648) ≤ x1 ∧ x1 ≤ 2147483647 from by omega) (fun c_13 y_16 hI_14 hF_15 hy_16 => ?_))
  refine bk_inl ?_
  refine q_istore rfl (by decide) ?_
  refine q_goto (t := 1844) rfl (by decide) ?_
  refine Wp_ls [(4, vi (i0 : Int)), (3, .ref 67), (2, .ref 41), (1, .ref 0), (0, .ref a_SC)] (lsub_cons rfl (lsub_cons rfl (lsub_cons rfl (lsub_cons rfl (lsub_cons rfl lsub_nil))))) ?_
  exact K P Q c_13 0 (by decide) hI_14

set_option maxRecDepth 100000 in
set_option maxHeartbeats 4000000 in
theorem o_33 {xs : Nat → Int32} {L i0 d nc ns P Q : Nat} {c : ME} {Z : AR → Prop} (hi : i0 + 8 ≤ L) (hL : L ≤ 100000) (hI : Iv 0 (-1) P Q c) (K : ∀ (P2 Q2 : Nat) (c2 : ME) (e : Nat), e ≤ 1 → Iv 0 (-1) P2 Q2 c2 → Wp (a_scr L xs) (d + 90) 296 1844 [(4, vi (i0 : Int)), (3, .ref 67), (2, .ref 41), (1, .ref 0), (0, .ref a_SC)] [] (Wd P2 Q2 P2 P2 c2) (nc + e) (ns + 6 * e) Z) : Wp (a_scr L xs) (d + 90) 296 1493 [(4, vi (i0 : Int)), (3, .ref 67), (2, .ref 41), (1, .ref 0), (0, .ref a_SC)] [] (Wd P Q P P c) nc ns Z := by
  obtain ⟨x1, hx1⟩ : ∃ z, (xs (i0 + 1)).toInt = z := ⟨_, rfl⟩
  have x1r := c_rng (xs (i0 + 1))
  rw [hx1] at x1r
  obtain ⟨x2, hx2⟩ : ∃ z, (xs (i0 + 2)).toInt = z := ⟨_, rfl⟩
  have x2r := c_rng (xs (i0 + 2))
  rw [hx2] at x2r
  obtain ⟨x3, hx3⟩ : ∃ z, (xs (i0 + 3)).toInt = z := ⟨_, rfl⟩
  have x3r := c_rng (xs (i0 + 3))
  rw [hx3] at x3r
  obtain ⟨x4, hx4⟩ : ∃ z, (xs (i0 + 4)).toInt = z := ⟨_, rfl⟩
  have x4r := c_rng (xs (i0 + 4))
  rw [hx4] at x4r
  obtain ⟨x5, hx5⟩ : ∃ z, (xs (i0 + 5)).toInt = z := ⟨_, rfl⟩
  have x5r := c_rng (xs (i0 + 5))
  rw [hx5] at x5r
  obtain ⟨x6, hx6⟩ : ∃ z, (xs (i0 + 6)).toInt = z := ⟨_, rfl⟩
  have x6r := c_rng (xs (i0 + 6))
  rw [hx6] at x6r
  obtain ⟨x7, hx7⟩ : ∃ z, (xs (i0 + 7)).toInt = z := ⟨_, rfl⟩
  have x7r := c_rng (xs (i0 + 7))
  rw [hx7] at x7r
  have hP := iv_P hI
  have hQ := iv_Q hI
  refine q_aload_n rfl rfl ?_
  refine q_aload_n rfl rfl ?_
  refine q_iload rfl rfl ?_
  refine q_iconst rfl ?_
  refine v_iadd (v := (i0 : Int) + 1) rfl (by omega) ?_
  refine v_scr (j := i0 + 1) rfl (by omega) (by omega) hL hx1 ?_
  refine q_aload_n rfl rfl ?_
  refine q_iload rfl rfl ?_
  refine q_iconst rfl ?_
  refine v_iadd (v := (i0 : Int) + 2) rfl (by omega) ?_
  refine v_scr (j := i0 + 2) rfl (by omega) (by omega) hL hx2 ?_
  refine q_aload_n rfl rfl ?_
  refine q_call rfl rfl rfl rfl ?_
  refine q_aload_n rfl rfl ?_
  refine q_iconst rfl ?_
  refine q_aload_n rfl rfl ?_
  refine q_iload_n rfl rfl ?_
  refine q_iload_n rfl rfl ?_
  refine v_cv rfl rfl rfl rfl (by decide) ⟨⟨rfl, rfl⟩, by decide, rfl⟩ (Nat.le_of_ble_eq_true rfl) (Nat.le_of_ble_eq_true rfl) (s_100 (a1 := x1) (a2 := x2) hI (show (-2147483648) ≤ x1 ∧ x1 ≤ 2147483647 from by omega) (show (-2147483648) ≤ x2 ∧ x2 ≤ 2147483647 from by omega) (fun c_1 hI_2 hF_3 => ?_) (fun c_4 y_7 hI_5 hF_6 hy_7 => ?_))
  · skip
    refine bk_thr (z := Int32.ofInt 1) rfl ⟨_, _, rfl⟩ rfl ?_
    refine bk_inl ?_
    refine q_istore rfl (by decide) ?_
    refine q_aload_n rfl rfl ?_
    refine q_aload_n rfl rfl ?_
    refine q_iload rfl rfl ?_
    refine q_iconst rfl ?_
    refine v_iadd (v := (i0 : Int) + 1) rfl (by omega) ?_
    refine v_scr (j := i0 + 1) rfl (by omega) (by omega) hL hx1 ?_
    refine q_aload_n rfl rfl ?_
    refine q_iload rfl rfl ?_
    refine q_iconst rfl ?_
    refine v_iadd (v := (i0 : Int) + 2) rfl (by omega) ?_
    refine v_scr (j := i0 + 2) rfl (by omega) (by omega) hL hx2 ?_
    refine v_cv rfl rfl rfl rfl (by decide) ⟨⟨rfl, rfl⟩, by decide, rfl⟩ (Nat.le_of_ble_eq_true rfl) (Nat.le_of_ble_eq_true rfl) (s_248 (a1 := x1) (a2 := x2) hI_2 (show (-2147483648) ≤ x1 ∧ x1 ≤ 2147483647 from by omega) (show (-2147483648) ≤ x2 ∧ x2 ≤ 2147483647 from by omega) (fun c_8 y_11 hI_9 hF_10 hy_11 => ?_))
    refine bk_inl ?_
    refine q_istore rfl (by decide) ?_
    refine q_goto (t := 1844) rfl (by decide) ?_
    refine Wp_ls [(4, vi (i0 : Int)), (3, .ref 67), (2, .ref 41), (1, .ref 0), (0, .ref a_SC)] (lsub_cons rfl (lsub_cons rfl (lsub_cons rfl (lsub_cons rfl (lsub_cons rfl lsub_nil))))) ?_
    exact K P Q c_8 1 (by decide) hI_9
  refine bk_inl ?_
  refine v_i2l rfl (by omega) ?_
  refine v_ls rfl rfl (by decide) (by decide) (by decide) ?_
  refine q_goto (t := 17) rfl (by decide) ?_
  refine q_iconst rfl ?_
  refine q_iret rfl rfl ?_
  refine bk_inl ?_
  refine q_istore rfl (by decide) ?_
  refine q_aload_n rfl rfl ?_
  refine q_aload_n rfl rfl ?_
  refine q_iload rfl rfl ?_
  refine q_iconst rfl ?_
  refine v_iadd (v := (i0 : Int) + 1) rfl (by omega) ?_
  refine v_scr (j := i0 + 1) rfl (by omega) (by omega) hL hx1 ?_
  refine q_aload_n rfl rfl ?_
  refine q_iload rfl rfl ?_
  refine q_iconst rfl ?_
  refine v_iadd (v := (i0 : Int) + 2) rfl (by omega) ?_
  refine v_scr (j := i0 + 2) rfl (by omega) (by omega) hL hx2 ?_
  have hI_12 := iw_lx (a := 67) (j := 0) (v := y_7) hI_5 (by omega)
  refine v_cv rfl rfl rfl rfl (by decide) ⟨⟨rfl, rfl⟩, by decide, rfl⟩ (Nat.le_of_ble_eq_true rfl) (Nat.le_of_ble_eq_true rfl) (s_248 (a1 := x1) (a2 := x2) hI_12 (show (-2147483648) ≤ x1 ∧ x1 ≤ 2147483647 from by omega) (show (-2147483648) ≤ x2 ∧ x2 ≤ 2147483647 from by omega) (fun c_13 y_16 hI_14 hF_15 hy_16 => ?_))
  refine bk_inl ?_
  refine q_istore rfl (by decide) ?_
  refine q_goto (t := 1844) rfl (by decide) ?_
  refine Wp_ls [(4, vi (i0 : Int)), (3, .ref 67), (2, .ref 41), (1, .ref 0), (0, .ref a_SC)] (lsub_cons rfl (lsub_cons rfl (lsub_cons rfl (lsub_cons rfl (lsub_cons rfl lsub_nil))))) ?_
  exact K P Q c_13 0 (by decide) hI_14

set_option maxRecDepth 100000 in
set_option maxHeartbeats 4000000 in
theorem o_34 {xs : Nat → Int32} {L i0 d nc ns P Q : Nat} {c : ME} {Z : AR → Prop} (hi : i0 + 8 ≤ L) (hL : L ≤ 100000) (hI : Iv 0 (-1) P Q c) (K : ∀ (P2 Q2 : Nat) (c2 : ME) (e : Nat), e ≤ 1 → Iv 0 (-1) P2 Q2 c2 → Wp (a_scr L xs) (d + 90) 296 1844 [(4, vi (i0 : Int)), (3, .ref 67), (2, .ref 41), (1, .ref 0), (0, .ref a_SC)] [] (Wd P2 Q2 P2 P2 c2) (nc + e) (ns + 6 * e) Z) : Wp (a_scr L xs) (d + 90) 296 1533 [(4, vi (i0 : Int)), (3, .ref 67), (2, .ref 41), (1, .ref 0), (0, .ref a_SC)] [] (Wd P Q P P c) nc ns Z := by
  obtain ⟨x1, hx1⟩ : ∃ z, (xs (i0 + 1)).toInt = z := ⟨_, rfl⟩
  have x1r := c_rng (xs (i0 + 1))
  rw [hx1] at x1r
  obtain ⟨x2, hx2⟩ : ∃ z, (xs (i0 + 2)).toInt = z := ⟨_, rfl⟩
  have x2r := c_rng (xs (i0 + 2))
  rw [hx2] at x2r
  obtain ⟨x3, hx3⟩ : ∃ z, (xs (i0 + 3)).toInt = z := ⟨_, rfl⟩
  have x3r := c_rng (xs (i0 + 3))
  rw [hx3] at x3r
  obtain ⟨x4, hx4⟩ : ∃ z, (xs (i0 + 4)).toInt = z := ⟨_, rfl⟩
  have x4r := c_rng (xs (i0 + 4))
  rw [hx4] at x4r
  obtain ⟨x5, hx5⟩ : ∃ z, (xs (i0 + 5)).toInt = z := ⟨_, rfl⟩
  have x5r := c_rng (xs (i0 + 5))
  rw [hx5] at x5r
  obtain ⟨x6, hx6⟩ : ∃ z, (xs (i0 + 6)).toInt = z := ⟨_, rfl⟩
  have x6r := c_rng (xs (i0 + 6))
  rw [hx6] at x6r
  obtain ⟨x7, hx7⟩ : ∃ z, (xs (i0 + 7)).toInt = z := ⟨_, rfl⟩
  have x7r := c_rng (xs (i0 + 7))
  rw [hx7] at x7r
  have hP := iv_P hI
  have hQ := iv_Q hI
  refine q_aload_n rfl rfl ?_
  refine v_cv rfl rfl rfl rfl (by decide) ⟨⟨rfl, rfl⟩, by decide, rfl⟩ (Nat.le_of_ble_eq_true rfl) (Nat.le_of_ble_eq_true rfl) (s_107 hI (fun c_1 y_4 hI_2 hF_3 hy_4 => ?_))
  refine bk_inl ?_
  refine q_pop rfl rfl ?_
  refine q_aload_n rfl rfl ?_
  refine v_cv rfl rfl rfl rfl (by decide) ⟨⟨rfl, rfl⟩, by decide, rfl⟩ (Nat.le_of_ble_eq_true rfl) (Nat.le_of_ble_eq_true rfl) (s_249 hI_2 (fun c_5 y_8 hI_6 hF_7 hy_8 => ?_))
  refine bk_inl ?_
  refine q_pop rfl rfl ?_
  refine q_goto (t := 1844) rfl (by decide) ?_
  refine Wp_ls [(4, vi (i0 : Int)), (3, .ref 67), (2, .ref 41), (1, .ref 0), (0, .ref a_SC)] (lsub_cons rfl (lsub_cons rfl (lsub_cons rfl (lsub_cons rfl (lsub_cons rfl lsub_nil))))) ?_
  exact K P Q c_5 0 (by decide) hI_6

set_option maxRecDepth 100000 in
set_option maxHeartbeats 4000000 in
theorem o_35 {xs : Nat → Int32} {L i0 d nc ns P Q : Nat} {c : ME} {Z : AR → Prop} (hi : i0 + 8 ≤ L) (hL : L ≤ 100000) (hI : Iv 0 (-1) P Q c) (K : ∀ (P2 Q2 : Nat) (c2 : ME) (e : Nat), e ≤ 1 → Iv 0 (-1) P2 Q2 c2 → Wp (a_scr L xs) (d + 90) 296 1844 [(4, vi (i0 : Int)), (3, .ref 67), (2, .ref 41), (1, .ref 0), (0, .ref a_SC)] [] (Wd P2 Q2 P2 P2 c2) (nc + e) (ns + 6 * e) Z) : Wp (a_scr L xs) (d + 90) 296 1546 [(4, vi (i0 : Int)), (3, .ref 67), (2, .ref 41), (1, .ref 0), (0, .ref a_SC)] [] (Wd P Q P P c) nc ns Z := by
  obtain ⟨x1, hx1⟩ : ∃ z, (xs (i0 + 1)).toInt = z := ⟨_, rfl⟩
  have x1r := c_rng (xs (i0 + 1))
  rw [hx1] at x1r
  obtain ⟨x2, hx2⟩ : ∃ z, (xs (i0 + 2)).toInt = z := ⟨_, rfl⟩
  have x2r := c_rng (xs (i0 + 2))
  rw [hx2] at x2r
  obtain ⟨x3, hx3⟩ : ∃ z, (xs (i0 + 3)).toInt = z := ⟨_, rfl⟩
  have x3r := c_rng (xs (i0 + 3))
  rw [hx3] at x3r
  obtain ⟨x4, hx4⟩ : ∃ z, (xs (i0 + 4)).toInt = z := ⟨_, rfl⟩
  have x4r := c_rng (xs (i0 + 4))
  rw [hx4] at x4r
  obtain ⟨x5, hx5⟩ : ∃ z, (xs (i0 + 5)).toInt = z := ⟨_, rfl⟩
  have x5r := c_rng (xs (i0 + 5))
  rw [hx5] at x5r
  obtain ⟨x6, hx6⟩ : ∃ z, (xs (i0 + 6)).toInt = z := ⟨_, rfl⟩
  have x6r := c_rng (xs (i0 + 6))
  rw [hx6] at x6r
  obtain ⟨x7, hx7⟩ : ∃ z, (xs (i0 + 7)).toInt = z := ⟨_, rfl⟩
  have x7r := c_rng (xs (i0 + 7))
  rw [hx7] at x7r
  have hP := iv_P hI
  have hQ := iv_Q hI
  refine q_aload_n rfl rfl ?_
  refine q_aload_n rfl rfl ?_
  refine q_iload rfl rfl ?_
  refine q_iconst rfl ?_
  refine v_iadd (v := (i0 : Int) + 1) rfl (by omega) ?_
  refine v_scr (j := i0 + 1) rfl (by omega) (by omega) hL hx1 ?_
  refine q_aload_n rfl rfl ?_
  refine q_call rfl rfl rfl rfl ?_
  refine q_aload_n rfl rfl ?_
  refine q_iconst rfl ?_
  refine q_aload_n rfl rfl ?_
  refine q_iload_n rfl rfl ?_
  refine v_cv rfl rfl rfl rfl (by decide) ⟨⟨rfl, rfl⟩, by decide, rfl⟩ (Nat.le_of_ble_eq_true rfl) (Nat.le_of_ble_eq_true rfl) (s_102 (a1 := x1) hI (show (-2147483648) ≤ x1 ∧ x1 ≤ 2147483647 from by omega) (fun c_1 hI_2 hF_3 => ?_) (fun c_4 y_7 hI_5 hF_6 hy_7 => ?_))
  · skip
    refine bk_thr (z := Int32.ofInt 1) rfl ⟨_, _, rfl⟩ rfl ?_
    refine bk_inl ?_
    refine q_istore rfl (by decide) ?_
    refine q_aload_n rfl rfl ?_
    refine q_aload_n rfl rfl ?_
    refine q_iload rfl rfl ?_
    refine q_iconst rfl ?_
    refine v_iadd (v := (i0 : Int) + 1) rfl (by omega) ?_
    refine v_scr (j := i0 + 1) rfl (by omega) (by omega) hL hx1 ?_
    refine v_cv rfl rfl rfl rfl (by decide) ⟨⟨rfl, rfl⟩, by decide, rfl⟩ (Nat.le_of_ble_eq_true rfl) (Nat.le_of_ble_eq_true rfl) (s_250 (a1 := x1) hI_2 (show (-2147483648) ≤ x1 ∧ x1 ≤ 2147483647 from by omega) (fun c_8 y_11 hI_9 hF_10 hy_11 => ?_))
    refine bk_inl ?_
    refine q_istore rfl (by decide) ?_
    refine q_goto (t := 1844) rfl (by decide) ?_
    refine Wp_ls [(4, vi (i0 : Int)), (3, .ref 67), (2, .ref 41), (1, .ref 0), (0, .ref a_SC)] (lsub_cons rfl (lsub_cons rfl (lsub_cons rfl (lsub_cons rfl (lsub_cons rfl lsub_nil))))) ?_
    exact K P Q c_8 1 (by decide) hI_9
  refine bk_inl ?_
  refine v_i2l rfl (by omega) ?_
  refine v_ls rfl rfl (by decide) (by decide) (by decide) ?_
  refine q_goto (t := 15) rfl (by decide) ?_
  refine q_iconst rfl ?_
  refine q_iret rfl rfl ?_
  refine bk_inl ?_
  refine q_istore rfl (by decide) ?_
  refine q_aload_n rfl rfl ?_
  refine q_aload_n rfl rfl ?_
  refine q_iload rfl rfl ?_
  refine q_iconst rfl ?_
  refine v_iadd (v := (i0 : Int) + 1) rfl (by omega) ?_
  refine v_scr (j := i0 + 1) rfl (by omega) (by omega) hL hx1 ?_
  have hI_12 := iw_lx (a := 67) (j := 0) (v := y_7) hI_5 (by omega)
  refine v_cv rfl rfl rfl rfl (by decide) ⟨⟨rfl, rfl⟩, by decide, rfl⟩ (Nat.le_of_ble_eq_true rfl) (Nat.le_of_ble_eq_true rfl) (s_250 (a1 := x1) hI_12 (show (-2147483648) ≤ x1 ∧ x1 ≤ 2147483647 from by omega) (fun c_13 y_16 hI_14 hF_15 hy_16 => ?_))
  refine bk_inl ?_
  refine q_istore rfl (by decide) ?_
  refine q_goto (t := 1844) rfl (by decide) ?_
  refine Wp_ls [(4, vi (i0 : Int)), (3, .ref 67), (2, .ref 41), (1, .ref 0), (0, .ref a_SC)] (lsub_cons rfl (lsub_cons rfl (lsub_cons rfl (lsub_cons rfl (lsub_cons rfl lsub_nil))))) ?_
  exact K P Q c_13 0 (by decide) hI_14

set_option maxRecDepth 100000 in
set_option maxHeartbeats 4000000 in
theorem o_36 {xs : Nat → Int32} {L i0 d nc ns P Q : Nat} {c : ME} {Z : AR → Prop} (hi : i0 + 8 ≤ L) (hL : L ≤ 100000) (hI : Iv 0 (-1) P Q c) (K : ∀ (P2 Q2 : Nat) (c2 : ME) (e : Nat), e ≤ 1 → Iv 0 (-1) P2 Q2 c2 → Wp (a_scr L xs) (d + 90) 296 1844 [(4, vi (i0 : Int)), (3, .ref 67), (2, .ref 41), (1, .ref 0), (0, .ref a_SC)] [] (Wd P2 Q2 P2 P2 c2) (nc + e) (ns + 6 * e) Z) : Wp (a_scr L xs) (d + 90) 296 1574 [(4, vi (i0 : Int)), (3, .ref 67), (2, .ref 41), (1, .ref 0), (0, .ref a_SC)] [] (Wd P Q P P c) nc ns Z := by
  obtain ⟨x1, hx1⟩ : ∃ z, (xs (i0 + 1)).toInt = z := ⟨_, rfl⟩
  have x1r := c_rng (xs (i0 + 1))
  rw [hx1] at x1r
  obtain ⟨x2, hx2⟩ : ∃ z, (xs (i0 + 2)).toInt = z := ⟨_, rfl⟩
  have x2r := c_rng (xs (i0 + 2))
  rw [hx2] at x2r
  obtain ⟨x3, hx3⟩ : ∃ z, (xs (i0 + 3)).toInt = z := ⟨_, rfl⟩
  have x3r := c_rng (xs (i0 + 3))
  rw [hx3] at x3r
  obtain ⟨x4, hx4⟩ : ∃ z, (xs (i0 + 4)).toInt = z := ⟨_, rfl⟩
  have x4r := c_rng (xs (i0 + 4))
  rw [hx4] at x4r
  obtain ⟨x5, hx5⟩ : ∃ z, (xs (i0 + 5)).toInt = z := ⟨_, rfl⟩
  have x5r := c_rng (xs (i0 + 5))
  rw [hx5] at x5r
  obtain ⟨x6, hx6⟩ : ∃ z, (xs (i0 + 6)).toInt = z := ⟨_, rfl⟩
  have x6r := c_rng (xs (i0 + 6))
  rw [hx6] at x6r
  obtain ⟨x7, hx7⟩ : ∃ z, (xs (i0 + 7)).toInt = z := ⟨_, rfl⟩
  have x7r := c_rng (xs (i0 + 7))
  rw [hx7] at x7r
  have hP := iv_P hI
  have hQ := iv_Q hI
  refine q_aload_n rfl rfl ?_
  refine q_aload_n rfl rfl ?_
  refine q_iload rfl rfl ?_
  refine q_iconst rfl ?_
  refine v_iadd (v := (i0 : Int) + 1) rfl (by omega) ?_
  refine v_scr (j := i0 + 1) rfl (by omega) (by omega) hL hx1 ?_
  refine q_aload_n rfl rfl ?_
  refine q_iload rfl rfl ?_
  refine q_iconst rfl ?_
  refine v_iadd (v := (i0 : Int) + 2) rfl (by omega) ?_
  refine v_scr (j := i0 + 2) rfl (by omega) (by omega) hL hx2 ?_
  refine q_aload_n rfl rfl ?_
  refine q_call rfl rfl rfl rfl ?_
  refine q_aload_n rfl rfl ?_
  refine q_iconst rfl ?_
  refine q_aload_n rfl rfl ?_
  refine q_iload_n rfl rfl ?_
  refine q_iload_n rfl rfl ?_
  refine v_cv rfl rfl rfl rfl (by decide) ⟨⟨rfl, rfl⟩, by decide, rfl⟩ (Nat.le_of_ble_eq_true rfl) (Nat.le_of_ble_eq_true rfl) (s_116 (a1 := x1) (a2 := x2) hI (show (-2147483648) ≤ x1 ∧ x1 ≤ 2147483647 from by omega) (show (-2147483648) ≤ x2 ∧ x2 ≤ 2147483647 from by omega) (fun c_1 hI_2 hF_3 => ?_) (fun c_4 hI_5 hF_6 => ?_) (fun c_7 y_10 hI_8 hF_9 hy_10 => ?_))
  · skip
    refine bk_thr (z := Int32.ofInt 1) rfl ⟨_, _, rfl⟩ rfl ?_
    refine bk_inl ?_
    refine q_istore rfl (by decide) ?_
    refine q_aload_n rfl rfl ?_
    refine q_aload_n rfl rfl ?_
    refine q_iload rfl rfl ?_
    refine q_iconst rfl ?_
    refine v_iadd (v := (i0 : Int) + 1) rfl (by omega) ?_
    refine v_scr (j := i0 + 1) rfl (by omega) (by omega) hL hx1 ?_
    refine q_aload_n rfl rfl ?_
    refine q_iload rfl rfl ?_
    refine q_iconst rfl ?_
    refine v_iadd (v := (i0 : Int) + 2) rfl (by omega) ?_
    refine v_scr (j := i0 + 2) rfl (by omega) (by omega) hL hx2 ?_
    refine v_cv rfl rfl rfl rfl (by decide) ⟨⟨rfl, rfl⟩, by decide, rfl⟩ (Nat.le_of_ble_eq_true rfl) (Nat.le_of_ble_eq_true rfl) (s_251 (a1 := x1) (a2 := x2) hI_2 (show (-2147483648) ≤ x1 ∧ x1 ≤ 2147483647 from by omega) (show (-2147483648) ≤ x2 ∧ x2 ≤ 2147483647 from by omega) (fun c_11 y_14 hI_12 hF_13 hy_14 => ?_))
    refine bk_inl ?_
    refine q_istore rfl (by decide) ?_
    refine q_goto (t := 1844) rfl (by decide) ?_
    refine Wp_ls [(4, vi (i0 : Int)), (3, .ref 67), (2, .ref 41), (1, .ref 0), (0, .ref a_SC)] (lsub_cons rfl (lsub_cons rfl (lsub_cons rfl (lsub_cons rfl (lsub_cons rfl lsub_nil))))) ?_
    exact K P Q c_11 1 (by decide) hI_12
  · skip
    refine bk_thr (z := Int32.ofInt 2) rfl ⟨_, _, rfl⟩ rfl ?_
    refine bk_inl ?_
    refine q_istore rfl (by decide) ?_
    refine q_aload_n rfl rfl ?_
    refine q_aload_n rfl rfl ?_
    refine q_iload rfl rfl ?_
    refine q_iconst rfl ?_
    refine v_iadd (v := (i0 : Int) + 1) rfl (by omega) ?_
    refine v_scr (j := i0 + 1) rfl (by omega) (by omega) hL hx1 ?_
    refine q_aload_n rfl rfl ?_
    refine q_iload rfl rfl ?_
    refine q_iconst rfl ?_
    refine v_iadd (v := (i0 : Int) + 2) rfl (by omega) ?_
    refine v_scr (j := i0 + 2) rfl (by omega) (by omega) hL hx2 ?_
    refine v_cv rfl rfl rfl rfl (by decide) ⟨⟨rfl, rfl⟩, by decide, rfl⟩ (Nat.le_of_ble_eq_true rfl) (Nat.le_of_ble_eq_true rfl) (s_251 (a1 := x1) (a2 := x2) hI_5 (show (-2147483648) ≤ x1 ∧ x1 ≤ 2147483647 from by omega) (show (-2147483648) ≤ x2 ∧ x2 ≤ 2147483647 from by omega) (fun c_15 y_18 hI_16 hF_17 hy_18 => ?_))
    refine bk_inl ?_
    refine q_istore rfl (by decide) ?_
    refine q_goto (t := 1844) rfl (by decide) ?_
    refine Wp_ls [(4, vi (i0 : Int)), (3, .ref 67), (2, .ref 41), (1, .ref 0), (0, .ref a_SC)] (lsub_cons rfl (lsub_cons rfl (lsub_cons rfl (lsub_cons rfl (lsub_cons rfl lsub_nil))))) ?_
    exact K P Q c_15 1 (by decide) hI_16
  refine bk_inl ?_
  refine v_i2l rfl (by omega) ?_
  refine v_ls rfl rfl (by decide) (by decide) (by decide) ?_
  refine q_goto (t := 21) rfl (by decide) ?_
  refine q_iconst rfl ?_
  refine q_iret rfl rfl ?_
  refine bk_inl ?_
  refine q_istore rfl (by decide) ?_
  refine q_aload_n rfl rfl ?_
  refine q_aload_n rfl rfl ?_
  refine q_iload rfl rfl ?_
  refine q_iconst rfl ?_
  refine v_iadd (v := (i0 : Int) + 1) rfl (by omega) ?_
  refine v_scr (j := i0 + 1) rfl (by omega) (by omega) hL hx1 ?_
  refine q_aload_n rfl rfl ?_
  refine q_iload rfl rfl ?_
  refine q_iconst rfl ?_
  refine v_iadd (v := (i0 : Int) + 2) rfl (by omega) ?_
  refine v_scr (j := i0 + 2) rfl (by omega) (by omega) hL hx2 ?_
  have hI_19 := iw_lx (a := 67) (j := 0) (v := y_10) hI_8 (by omega)
  refine v_cv rfl rfl rfl rfl (by decide) ⟨⟨rfl, rfl⟩, by decide, rfl⟩ (Nat.le_of_ble_eq_true rfl) (Nat.le_of_ble_eq_true rfl) (s_251 (a1 := x1) (a2 := x2) hI_19 (show (-2147483648) ≤ x1 ∧ x1 ≤ 2147483647 from by omega) (show (-2147483648) ≤ x2 ∧ x2 ≤ 2147483647 from by omega) (fun c_20 y_23 hI_21 hF_22 hy_23 => ?_))
  refine bk_inl ?_
  refine q_istore rfl (by decide) ?_
  refine q_goto (t := 1844) rfl (by decide) ?_
  refine Wp_ls [(4, vi (i0 : Int)), (3, .ref 67), (2, .ref 41), (1, .ref 0), (0, .ref a_SC)] (lsub_cons rfl (lsub_cons rfl (lsub_cons rfl (lsub_cons rfl (lsub_cons rfl lsub_nil))))) ?_
  exact K P Q c_20 0 (by decide) hI_21

set_option maxRecDepth 100000 in
set_option maxHeartbeats 4000000 in
theorem o_37 {xs : Nat → Int32} {L i0 d nc ns P Q : Nat} {c : ME} {Z : AR → Prop} (hi : i0 + 8 ≤ L) (hL : L ≤ 100000) (hI : Iv 0 (-1) P Q c) (K : ∀ (P2 Q2 : Nat) (c2 : ME) (e : Nat), e ≤ 1 → Iv 0 (-1) P2 Q2 c2 → Wp (a_scr L xs) (d + 90) 296 1844 [(4, vi (i0 : Int)), (3, .ref 67), (2, .ref 41), (1, .ref 0), (0, .ref a_SC)] [] (Wd P2 Q2 P2 P2 c2) (nc + e) (ns + 6 * e) Z) : Wp (a_scr L xs) (d + 90) 296 1614 [(4, vi (i0 : Int)), (3, .ref 67), (2, .ref 41), (1, .ref 0), (0, .ref a_SC)] [] (Wd P Q P P c) nc ns Z := by
  obtain ⟨x1, hx1⟩ : ∃ z, (xs (i0 + 1)).toInt = z := ⟨_, rfl⟩
  have x1r := c_rng (xs (i0 + 1))
  rw [hx1] at x1r
  obtain ⟨x2, hx2⟩ : ∃ z, (xs (i0 + 2)).toInt = z := ⟨_, rfl⟩
  have x2r := c_rng (xs (i0 + 2))
  rw [hx2] at x2r
  obtain ⟨x3, hx3⟩ : ∃ z, (xs (i0 + 3)).toInt = z := ⟨_, rfl⟩
  have x3r := c_rng (xs (i0 + 3))
  rw [hx3] at x3r
  obtain ⟨x4, hx4⟩ : ∃ z, (xs (i0 + 4)).toInt = z := ⟨_, rfl⟩
  have x4r := c_rng (xs (i0 + 4))
  rw [hx4] at x4r
  obtain ⟨x5, hx5⟩ : ∃ z, (xs (i0 + 5)).toInt = z := ⟨_, rfl⟩
  have x5r := c_rng (xs (i0 + 5))
  rw [hx5] at x5r
  obtain ⟨x6, hx6⟩ : ∃ z, (xs (i0 + 6)).toInt = z := ⟨_, rfl⟩
  have x6r := c_rng (xs (i0 + 6))
  rw [hx6] at x6r
  obtain ⟨x7, hx7⟩ : ∃ z, (xs (i0 + 7)).toInt = z := ⟨_, rfl⟩
  have x7r := c_rng (xs (i0 + 7))
  rw [hx7] at x7r
  have hP := iv_P hI
  have hQ := iv_Q hI
  refine q_aload_n rfl rfl ?_
  refine q_aload_n rfl rfl ?_
  refine q_iload rfl rfl ?_
  refine q_iconst rfl ?_
  refine v_iadd (v := (i0 : Int) + 1) rfl (by omega) ?_
  refine v_scr (j := i0 + 1) rfl (by omega) (by omega) hL hx1 ?_
  refine q_aload_n rfl rfl ?_
  refine q_iload rfl rfl ?_
  refine q_iconst rfl ?_
  refine v_iadd (v := (i0 : Int) + 2) rfl (by omega) ?_
  refine v_scr (j := i0 + 2) rfl (by omega) (by omega) hL hx2 ?_
  refine q_aload_n rfl rfl ?_
  refine q_iload rfl rfl ?_
  refine q_iconst rfl ?_
  refine v_iadd (v := (i0 : Int) + 3) rfl (by omega) ?_
  refine v_scr (j := i0 + 3) rfl (by omega) (by omega) hL hx3 ?_
  refine q_aload_n rfl rfl ?_
  refine q_iload rfl rfl ?_
  refine q_iconst rfl ?_
  refine v_iadd (v := (i0 : Int) + 4) rfl (by omega) ?_
  refine v_scr (j := i0 + 4) rfl (by omega) (by omega) hL hx4 ?_
  refine q_aload_n rfl rfl ?_
  refine q_call rfl rfl rfl rfl ?_
  refine q_aload rfl rfl ?_
  refine q_iconst rfl ?_
  refine q_aload_n rfl rfl ?_
  refine q_iload_n rfl rfl ?_
  refine q_iload_n rfl rfl ?_
  refine q_iload_n rfl rfl ?_
  refine q_iload rfl rfl ?_
  refine v_cv rfl rfl rfl rfl (by decide) ⟨⟨rfl, rfl⟩, by decide, rfl⟩ (Nat.le_of_ble_eq_true rfl) (Nat.le_of_ble_eq_true rfl) (s_137 (a1 := x1) (a2 := x2) (a3 := x3) (a4 := x4) hI (show (-2147483648) ≤ x1 ∧ x1 ≤ 2147483647 from by omega) (show (-2147483648) ≤ x2 ∧ x2 ≤ 2147483647 from by omega) (show (-2147483648) ≤ x3 ∧ x3 ≤ 2147483647 from by omega) (show (-2147483648) ≤ x4 ∧ x4 ≤ 2147483647 from by omega) (fun c_1 hI_2 hF_3 => ?_) (fun c_4 y_7 hI_5 hF_6 hy_7 => ?_))
  · skip
    refine bk_thr (z := Int32.ofInt 1) rfl ⟨_, _, rfl⟩ rfl ?_
    refine bk_inl ?_
    refine q_istore rfl (by decide) ?_
    refine q_aload_n rfl rfl ?_
    refine q_aload_n rfl rfl ?_
    refine q_iload rfl rfl ?_
    refine q_iconst rfl ?_
    refine v_iadd (v := (i0 : Int) + 1) rfl (by omega) ?_
    refine v_scr (j := i0 + 1) rfl (by omega) (by omega) hL hx1 ?_
    refine q_aload_n rfl rfl ?_
    refine q_iload rfl rfl ?_
    refine q_iconst rfl ?_
    refine v_iadd (v := (i0 : Int) + 2) rfl (by omega) ?_
    refine v_scr (j := i0 + 2) rfl (by omega) (by omega) hL hx2 ?_
    refine q_aload_n rfl rfl ?_
    refine q_iload rfl rfl ?_
    refine q_iconst rfl ?_
    refine v_iadd (v := (i0 : Int) + 3) rfl (by omega) ?_
    refine v_scr (j := i0 + 3) rfl (by omega) (by omega) hL hx3 ?_
    refine q_aload_n rfl rfl ?_
    refine q_iload rfl rfl ?_
    refine q_iconst rfl ?_
    refine v_iadd (v := (i0 : Int) + 4) rfl (by omega) ?_
    refine v_scr (j := i0 + 4) rfl (by omega) (by omega) hL hx4 ?_
    refine v_cv rfl rfl rfl rfl (by decide) ⟨⟨rfl, rfl⟩, by decide, rfl⟩ (Nat.le_of_ble_eq_true rfl) (Nat.le_of_ble_eq_true rfl) (s_255 (a1 := x1) (a2 := x2) (a3 := x3) (a4 := x4) hI_2 (show (-2147483648) ≤ x1 ∧ x1 ≤ 2147483647 from by omega) (show (-2147483648) ≤ x2 ∧ x2 ≤ 2147483647 from by omega) (show (-2147483648) ≤ x3 ∧ x3 ≤ 2147483647 from by omega) (show (-2147483648) ≤ x4 ∧ x4 ≤ 2147483647 from by omega) (fun c_8 y_11 hI_9 hF_10 hy_11 => ?_))
    refine bk_inl ?_
    refine q_istore rfl (by decide) ?_
    refine q_goto (t := 1844) rfl (by decide) ?_
    refine Wp_ls [(4, vi (i0 : Int)), (3, .ref 67), (2, .ref 41), (1, .ref 0), (0, .ref a_SC)] (lsub_cons rfl (lsub_cons rfl (lsub_cons rfl (lsub_cons rfl (lsub_cons rfl lsub_nil))))) ?_
    exact K P Q c_8 1 (by decide) hI_9
  refine bk_inl ?_
  refine v_i2l rfl (by omega) ?_
  refine v_ls rfl rfl (by decide) (by decide) (by decide) ?_
  refine q_goto (t := 21) rfl (by decide) ?_
  refine q_iconst rfl ?_
  refine q_iret rfl rfl ?_
  refine bk_inl ?_
  refine q_istore rfl (by decide) ?_
  refine q_aload_n rfl rfl ?_
  refine q_aload_n rfl rfl ?_
  refine q_iload rfl rfl ?_
  refine q_iconst rfl ?_
  refine v_iadd (v := (i0 : Int) + 1) rfl (by omega) ?_
  refine v_scr (j := i0 + 1) rfl (by omega) (by omega) hL hx1 ?_
  refine q_aload_n rfl rfl ?_
  refine q_iload rfl rfl ?_
  refine q_iconst rfl ?_
  refine v_iadd (v := (i0 : Int) + 2) rfl (by omega) ?_
  refine v_scr (j := i0 + 2) rfl (by omega) (by omega) hL hx2 ?_
  refine q_aload_n rfl rfl ?_
  refine q_iload rfl rfl ?_
  refine q_iconst rfl ?_
  refine v_iadd (v := (i0 : Int) + 3) rfl (by omega) ?_
  refine v_scr (j := i0 + 3) rfl (by omega) (by omega) hL hx3 ?_
  refine q_aload_n rfl rfl ?_
  refine q_iload rfl rfl ?_
  refine q_iconst rfl ?_
  refine v_iadd (v := (i0 : Int) + 4) rfl (by omega) ?_
  refine v_scr (j := i0 + 4) rfl (by omega) (by omega) hL hx4 ?_
  have hI_12 := iw_lx (a := 67) (j := 0) (v := y_7) hI_5 (by omega)
  refine v_cv rfl rfl rfl rfl (by decide) ⟨⟨rfl, rfl⟩, by decide, rfl⟩ (Nat.le_of_ble_eq_true rfl) (Nat.le_of_ble_eq_true rfl) (s_255 (a1 := x1) (a2 := x2) (a3 := x3) (a4 := x4) hI_12 (show (-2147483648) ≤ x1 ∧ x1 ≤ 2147483647 from by omega) (show (-2147483648) ≤ x2 ∧ x2 ≤ 2147483647 from by omega) (show (-2147483648) ≤ x3 ∧ x3 ≤ 2147483647 from by omega) (show (-2147483648) ≤ x4 ∧ x4 ≤ 2147483647 from by omega) (fun c_13 y_16 hI_14 hF_15 hy_16 => ?_))
  refine bk_inl ?_
  refine q_istore rfl (by decide) ?_
  refine q_goto (t := 1844) rfl (by decide) ?_
  refine Wp_ls [(4, vi (i0 : Int)), (3, .ref 67), (2, .ref 41), (1, .ref 0), (0, .ref a_SC)] (lsub_cons rfl (lsub_cons rfl (lsub_cons rfl (lsub_cons rfl (lsub_cons rfl lsub_nil))))) ?_
  exact K P Q c_13 0 (by decide) hI_14

set_option maxRecDepth 100000 in
set_option maxHeartbeats 4000000 in
theorem o_38 {xs : Nat → Int32} {L i0 d nc ns P Q : Nat} {c : ME} {Z : AR → Prop} (hi : i0 + 8 ≤ L) (hL : L ≤ 100000) (hI : Iv 0 (-1) P Q c) (K : ∀ (P2 Q2 : Nat) (c2 : ME) (e : Nat), e ≤ 1 → Iv 0 (-1) P2 Q2 c2 → Wp (a_scr L xs) (d + 90) 296 1844 [(4, vi (i0 : Int)), (3, .ref 67), (2, .ref 41), (1, .ref 0), (0, .ref a_SC)] [] (Wd P2 Q2 P2 P2 c2) (nc + e) (ns + 6 * e) Z) : Wp (a_scr L xs) (d + 90) 296 1678 [(4, vi (i0 : Int)), (3, .ref 67), (2, .ref 41), (1, .ref 0), (0, .ref a_SC)] [] (Wd P Q P P c) nc ns Z := by
  obtain ⟨x1, hx1⟩ : ∃ z, (xs (i0 + 1)).toInt = z := ⟨_, rfl⟩
  have x1r := c_rng (xs (i0 + 1))
  rw [hx1] at x1r
  obtain ⟨x2, hx2⟩ : ∃ z, (xs (i0 + 2)).toInt = z := ⟨_, rfl⟩
  have x2r := c_rng (xs (i0 + 2))
  rw [hx2] at x2r
  obtain ⟨x3, hx3⟩ : ∃ z, (xs (i0 + 3)).toInt = z := ⟨_, rfl⟩
  have x3r := c_rng (xs (i0 + 3))
  rw [hx3] at x3r
  obtain ⟨x4, hx4⟩ : ∃ z, (xs (i0 + 4)).toInt = z := ⟨_, rfl⟩
  have x4r := c_rng (xs (i0 + 4))
  rw [hx4] at x4r
  obtain ⟨x5, hx5⟩ : ∃ z, (xs (i0 + 5)).toInt = z := ⟨_, rfl⟩
  have x5r := c_rng (xs (i0 + 5))
  rw [hx5] at x5r
  obtain ⟨x6, hx6⟩ : ∃ z, (xs (i0 + 6)).toInt = z := ⟨_, rfl⟩
  have x6r := c_rng (xs (i0 + 6))
  rw [hx6] at x6r
  obtain ⟨x7, hx7⟩ : ∃ z, (xs (i0 + 7)).toInt = z := ⟨_, rfl⟩
  have x7r := c_rng (xs (i0 + 7))
  rw [hx7] at x7r
  have hP := iv_P hI
  have hQ := iv_Q hI
  refine q_aload_n rfl rfl ?_
  refine q_aload_n rfl rfl ?_
  refine q_iload rfl rfl ?_
  refine q_iconst rfl ?_
  refine v_iadd (v := (i0 : Int) + 1) rfl (by omega) ?_
  refine v_scr (j := i0 + 1) rfl (by omega) (by omega) hL hx1 ?_
  refine q_aload_n rfl rfl ?_
  refine q_iload rfl rfl ?_
  refine q_iconst rfl ?_
  refine v_iadd (v := (i0 : Int) + 2) rfl (by omega) ?_
  refine v_scr (j := i0 + 2) rfl (by omega) (by omega) hL hx2 ?_
  refine q_aload_n rfl rfl ?_
  refine q_iload rfl rfl ?_
  refine q_iconst rfl ?_
  refine v_iadd (v := (i0 : Int) + 3) rfl (by omega) ?_
  refine v_scr (j := i0 + 3) rfl (by omega) (by omega) hL hx3 ?_
  refine q_aload_n rfl rfl ?_
  refine q_iload rfl rfl ?_
  refine q_iconst rfl ?_
  refine v_iadd (v := (i0 : Int) + 4) rfl (by omega) ?_
  refine v_scr (j := i0 + 4) rfl (by omega) (by omega) hL hx4 ?_
  refine q_aload_n rfl rfl ?_
  refine q_iload rfl rfl ?_
  refine q_iconst rfl ?_
  refine v_iadd (v := (i0 : Int) + 5) rfl (by omega) ?_
  refine v_scr (j := i0 + 5) rfl (by omega) (by omega) hL hx5 ?_
  refine q_aload_n rfl rfl ?_
  refine q_iload rfl rfl ?_
  refine v_bip rfl (by decide) ?_
  refine v_iadd (v := (i0 : Int) + 6) rfl (by omega) ?_
  refine v_scr (j := i0 + 6) rfl (by omega) (by omega) hL hx6 ?_
  refine q_aload_n rfl rfl ?_
  refine q_call rfl rfl rfl rfl ?_
  refine q_aload rfl rfl ?_
  refine q_iconst rfl ?_
  refine q_aload_n rfl rfl ?_
  refine q_iload_n rfl rfl ?_
  refine q_iload_n rfl rfl ?_
  refine q_iload_n rfl rfl ?_
  refine q_iload rfl rfl ?_
  refine q_iload rfl rfl ?_
  refine q_iload rfl rfl ?_
  refine v_cv rfl rfl rfl rfl (by decide) ⟨⟨rfl, rfl⟩, by decide, rfl⟩ (Nat.le_of_ble_eq_true rfl) (Nat.le_of_ble_eq_true rfl) (s_138 (a1 := x1) (a2 := x2) (a3 := x3) (a4 := x4) (a5 := x5) (a6 := x6) hI (show (-2147483648) ≤ x1 ∧ x1 ≤ 2147483647 from by omega) (show (-2147483648) ≤ x2 ∧ x2 ≤ 2147483647 from by omega) (show (-2147483648) ≤ x3 ∧ x3 ≤ 2147483647 from by omega) (show (-2147483648) ≤ x4 ∧ x4 ≤ 2147483647 from by omega) (show (-2147483648) ≤ x5 ∧ x5 ≤ 2147483647 from by omega) (show (-2147483648) ≤ x6 ∧ x6 ≤ 2147483647 from by omega) (fun c_1 hI_2 hF_3 => ?_) (fun c_4 y_7 hI_5 hF_6 hy_7 => ?_))
  · skip
    refine bk_thr (z := Int32.ofInt 1) rfl ⟨_, _, rfl⟩ rfl ?_
    refine bk_inl ?_
    refine q_istore rfl (by decide) ?_
    refine q_aload_n rfl rfl ?_
    refine q_aload_n rfl rfl ?_
    refine q_iload rfl rfl ?_
    refine q_iconst rfl ?_
    refine v_iadd (v := (i0 : Int) + 1) rfl (by omega) ?_
    refine v_scr (j := i0 + 1) rfl (by omega) (by omega) hL hx1 ?_
    refine q_aload_n rfl rfl ?_
    refine q_iload rfl rfl ?_
    refine q_iconst rfl ?_
    refine v_iadd (v := (i0 : Int) + 2) rfl (by omega) ?_
    refine v_scr (j := i0 + 2) rfl (by omega) (by omega) hL hx2 ?_
    refine q_aload_n rfl rfl ?_
    refine q_iload rfl rfl ?_
    refine q_iconst rfl ?_
    refine v_iadd (v := (i0 : Int) + 3) rfl (by omega) ?_
    refine v_scr (j := i0 + 3) rfl (by omega) (by omega) hL hx3 ?_
    refine q_aload_n rfl rfl ?_
    refine q_iload rfl rfl ?_
    refine q_iconst rfl ?_
    refine v_iadd (v := (i0 : Int) + 4) rfl (by omega) ?_
    refine v_scr (j := i0 + 4) rfl (by omega) (by omega) hL hx4 ?_
    refine q_aload_n rfl rfl ?_
    refine q_iload rfl rfl ?_
    refine q_iconst rfl ?_
    refine v_iadd (v := (i0 : Int) + 5) rfl (by omega) ?_
    refine v_scr (j := i0 + 5) rfl (by omega) (by omega) hL hx5 ?_
    refine q_aload_n rfl rfl ?_
    refine q_iload rfl rfl ?_
    refine v_bip rfl (by decide) ?_
    refine v_iadd (v := (i0 : Int) + 6) rfl (by omega) ?_
    refine v_scr (j := i0 + 6) rfl (by omega) (by omega) hL hx6 ?_
    refine v_cv rfl rfl rfl rfl (by decide) ⟨⟨rfl, rfl⟩, by decide, rfl⟩ (Nat.le_of_ble_eq_true rfl) (Nat.le_of_ble_eq_true rfl) (s_256 (a1 := x1) (a2 := x2) (a3 := x3) (a4 := x4) (a5 := x5) (a6 := x6) hI_2 (show (-2147483648) ≤ x1 ∧ x1 ≤ 2147483647 from by omega) (show (-2147483648) ≤ x2 ∧ x2 ≤ 2147483647 from by omega) (show (-2147483648) ≤ x3 ∧ x3 ≤ 2147483647 from by omega) (show (-2147483648) ≤ x4 ∧ x4 ≤ 2147483647 from by omega) (show (-2147483648) ≤ x5 ∧ x5 ≤ 2147483647 from by omega) (show (-2147483648) ≤ x6 ∧ x6 ≤ 2147483647 from by omega) (fun c_8 y_11 hI_9 hF_10 hy_11 => ?_))
    refine bk_inl ?_
    refine q_istore rfl (by decide) ?_
    refine q_goto (t := 1844) rfl (by decide) ?_
    refine Wp_ls [(4, vi (i0 : Int)), (3, .ref 67), (2, .ref 41), (1, .ref 0), (0, .ref a_SC)] (lsub_cons rfl (lsub_cons rfl (lsub_cons rfl (lsub_cons rfl (lsub_cons rfl lsub_nil))))) ?_
    exact K P Q c_8 1 (by decide) hI_9
  refine bk_inl ?_
  refine v_i2l rfl (by omega) ?_
  refine v_ls rfl rfl (by decide) (by decide) (by decide) ?_
  refine q_goto (t := 25) rfl (by decide) ?_
  refine q_iconst rfl ?_
  refine q_iret rfl rfl ?_
  refine bk_inl ?_
  refine q_istore rfl (by decide) ?_
  refine q_aload_n rfl rfl ?_
  refine q_aload_n rfl rfl ?_
  refine q_iload rfl rfl ?_
  refine q_iconst rfl ?_
  refine v_iadd (v := (i0 : Int) + 1) rfl (by omega) ?_
  refine v_scr (j := i0 + 1) rfl (by omega) (by omega) hL hx1 ?_
  refine q_aload_n rfl rfl ?_
  refine q_iload rfl rfl ?_
  refine q_iconst rfl ?_
  refine v_iadd (v := (i0 : Int) + 2) rfl (by omega) ?_
  refine v_scr (j := i0 + 2) rfl (by omega) (by omega) hL hx2 ?_
  refine q_aload_n rfl rfl ?_
  refine q_iload rfl rfl ?_
  refine q_iconst rfl ?_
  refine v_iadd (v := (i0 : Int) + 3) rfl (by omega) ?_
  refine v_scr (j := i0 + 3) rfl (by omega) (by omega) hL hx3 ?_
  refine q_aload_n rfl rfl ?_
  refine q_iload rfl rfl ?_
  refine q_iconst rfl ?_
  refine v_iadd (v := (i0 : Int) + 4) rfl (by omega) ?_
  refine v_scr (j := i0 + 4) rfl (by omega) (by omega) hL hx4 ?_
  refine q_aload_n rfl rfl ?_
  refine q_iload rfl rfl ?_
  refine q_iconst rfl ?_
  refine v_iadd (v := (i0 : Int) + 5) rfl (by omega) ?_
  refine v_scr (j := i0 + 5) rfl (by omega) (by omega) hL hx5 ?_
  refine q_aload_n rfl rfl ?_
  refine q_iload rfl rfl ?_
  refine v_bip rfl (by decide) ?_
  refine v_iadd (v := (i0 : Int) + 6) rfl (by omega) ?_
  refine v_scr (j := i0 + 6) rfl (by omega) (by omega) hL hx6 ?_
  have hI_12 := iw_lx (a := 67) (j := 0) (v := y_7) hI_5 (by omega)
  refine v_cv rfl rfl rfl rfl (by decide) ⟨⟨rfl, rfl⟩, by decide, rfl⟩ (Nat.le_of_ble_eq_true rfl) (Nat.le_of_ble_eq_true rfl) (s_256 (a1 := x1) (a2 := x2) (a3 := x3) (a4 := x4) (a5 := x5) (a6 := x6) hI_12 (show (-2147483648) ≤ x1 ∧ x1 ≤ 2147483647 from by omega) (show (-2147483648) ≤ x2 ∧ x2 ≤ 2147483647 from by omega) (show (-2147483648) ≤ x3 ∧ x3 ≤ 2147483647 from by omega) (show (-2147483648) ≤ x4 ∧ x4 ≤ 2147483647 from by omega) (show (-2147483648) ≤ x5 ∧ x5 ≤ 2147483647 from by omega) (show (-2147483648) ≤ x6 ∧ x6 ≤ 2147483647 from by omega) (fun c_13 y_16 hI_14 hF_15 hy_16 => ?_))
  refine bk_inl ?_
  refine q_istore rfl (by decide) ?_
  refine q_goto (t := 1844) rfl (by decide) ?_
  refine Wp_ls [(4, vi (i0 : Int)), (3, .ref 67), (2, .ref 41), (1, .ref 0), (0, .ref a_SC)] (lsub_cons rfl (lsub_cons rfl (lsub_cons rfl (lsub_cons rfl (lsub_cons rfl lsub_nil))))) ?_
  exact K P Q c_13 0 (by decide) hI_14

set_option maxRecDepth 100000 in
set_option maxHeartbeats 4000000 in
theorem o_39 {xs : Nat → Int32} {L i0 d nc ns P Q : Nat} {c : ME} {Z : AR → Prop} (hi : i0 + 8 ≤ L) (hL : L ≤ 100000) (hI : Iv 0 (-1) P Q c) (K : ∀ (P2 Q2 : Nat) (c2 : ME) (e : Nat), e ≤ 1 → Iv 0 (-1) P2 Q2 c2 → Wp (a_scr L xs) (d + 90) 296 1844 [(4, vi (i0 : Int)), (3, .ref 67), (2, .ref 41), (1, .ref 0), (0, .ref a_SC)] [] (Wd P2 Q2 P2 P2 c2) (nc + e) (ns + 6 * e) Z) : Wp (a_scr L xs) (d + 90) 296 1768 [(4, vi (i0 : Int)), (3, .ref 67), (2, .ref 41), (1, .ref 0), (0, .ref a_SC)] [] (Wd P Q P P c) nc ns Z := by
  obtain ⟨x1, hx1⟩ : ∃ z, (xs (i0 + 1)).toInt = z := ⟨_, rfl⟩
  have x1r := c_rng (xs (i0 + 1))
  rw [hx1] at x1r
  obtain ⟨x2, hx2⟩ : ∃ z, (xs (i0 + 2)).toInt = z := ⟨_, rfl⟩
  have x2r := c_rng (xs (i0 + 2))
  rw [hx2] at x2r
  obtain ⟨x3, hx3⟩ : ∃ z, (xs (i0 + 3)).toInt = z := ⟨_, rfl⟩
  have x3r := c_rng (xs (i0 + 3))
  rw [hx3] at x3r
  obtain ⟨x4, hx4⟩ : ∃ z, (xs (i0 + 4)).toInt = z := ⟨_, rfl⟩
  have x4r := c_rng (xs (i0 + 4))
  rw [hx4] at x4r
  obtain ⟨x5, hx5⟩ : ∃ z, (xs (i0 + 5)).toInt = z := ⟨_, rfl⟩
  have x5r := c_rng (xs (i0 + 5))
  rw [hx5] at x5r
  obtain ⟨x6, hx6⟩ : ∃ z, (xs (i0 + 6)).toInt = z := ⟨_, rfl⟩
  have x6r := c_rng (xs (i0 + 6))
  rw [hx6] at x6r
  obtain ⟨x7, hx7⟩ : ∃ z, (xs (i0 + 7)).toInt = z := ⟨_, rfl⟩
  have x7r := c_rng (xs (i0 + 7))
  rw [hx7] at x7r
  have hP := iv_P hI
  have hQ := iv_Q hI
  refine q_aload_n rfl rfl ?_
  refine v_cv rfl rfl rfl rfl (by decide) ⟨⟨rfl, rfl⟩, by decide, rfl⟩ (Nat.le_of_ble_eq_true rfl) (Nat.le_of_ble_eq_true rfl) (s_140 hI (fun c_1 y_4 hI_2 hF_3 hy_4 => ?_))
  refine bk_inl ?_
  refine q_pop rfl rfl ?_
  refine q_aload_n rfl rfl ?_
  refine v_cv rfl rfl rfl rfl (by decide) ⟨⟨rfl, rfl⟩, by decide, rfl⟩ (Nat.le_of_ble_eq_true rfl) (Nat.le_of_ble_eq_true rfl) (s_259 hI_2 (fun c_5 y_8 hI_6 hF_7 hy_8 => ?_))
  refine bk_inl ?_
  refine q_pop rfl rfl ?_
  refine q_goto (t := 1844) rfl (by decide) ?_
  refine Wp_ls [(4, vi (i0 : Int)), (3, .ref 67), (2, .ref 41), (1, .ref 0), (0, .ref a_SC)] (lsub_cons rfl (lsub_cons rfl (lsub_cons rfl (lsub_cons rfl (lsub_cons rfl lsub_nil))))) ?_
  exact K P Q c_5 0 (by decide) hI_6

set_option maxRecDepth 100000 in
set_option maxHeartbeats 4000000 in
theorem o_40 {xs : Nat → Int32} {L i0 d nc ns P Q : Nat} {c : ME} {Z : AR → Prop} (hi : i0 + 8 ≤ L) (hL : L ≤ 100000) (hI : Iv 0 (-1) P Q c) (K : ∀ (P2 Q2 : Nat) (c2 : ME) (e : Nat), e ≤ 1 → Iv 0 (-1) P2 Q2 c2 → Wp (a_scr L xs) (d + 90) 296 1844 [(4, vi (i0 : Int)), (3, .ref 67), (2, .ref 41), (1, .ref 0), (0, .ref a_SC)] [] (Wd P2 Q2 P2 P2 c2) (nc + e) (ns + 6 * e) Z) : Wp (a_scr L xs) (d + 90) 296 1781 [(4, vi (i0 : Int)), (3, .ref 67), (2, .ref 41), (1, .ref 0), (0, .ref a_SC)] [] (Wd P Q P P c) nc ns Z := by
  obtain ⟨x1, hx1⟩ : ∃ z, (xs (i0 + 1)).toInt = z := ⟨_, rfl⟩
  have x1r := c_rng (xs (i0 + 1))
  rw [hx1] at x1r
  obtain ⟨x2, hx2⟩ : ∃ z, (xs (i0 + 2)).toInt = z := ⟨_, rfl⟩
  have x2r := c_rng (xs (i0 + 2))
  rw [hx2] at x2r
  obtain ⟨x3, hx3⟩ : ∃ z, (xs (i0 + 3)).toInt = z := ⟨_, rfl⟩
  have x3r := c_rng (xs (i0 + 3))
  rw [hx3] at x3r
  obtain ⟨x4, hx4⟩ : ∃ z, (xs (i0 + 4)).toInt = z := ⟨_, rfl⟩
  have x4r := c_rng (xs (i0 + 4))
  rw [hx4] at x4r
  obtain ⟨x5, hx5⟩ : ∃ z, (xs (i0 + 5)).toInt = z := ⟨_, rfl⟩
  have x5r := c_rng (xs (i0 + 5))
  rw [hx5] at x5r
  obtain ⟨x6, hx6⟩ : ∃ z, (xs (i0 + 6)).toInt = z := ⟨_, rfl⟩
  have x6r := c_rng (xs (i0 + 6))
  rw [hx6] at x6r
  obtain ⟨x7, hx7⟩ : ∃ z, (xs (i0 + 7)).toInt = z := ⟨_, rfl⟩
  have x7r := c_rng (xs (i0 + 7))
  rw [hx7] at x7r
  have hP := iv_P hI
  have hQ := iv_Q hI
  refine q_aload_n rfl rfl ?_
  refine v_cv rfl rfl rfl rfl (by decide) ⟨⟨rfl, rfl⟩, by decide, rfl⟩ (Nat.le_of_ble_eq_true rfl) (Nat.le_of_ble_eq_true rfl) (s_141 hI (fun c_1 y_4 hI_2 hF_3 hy_4 => ?_))
  refine bk_inl ?_
  refine q_pop rfl rfl ?_
  refine q_aload_n rfl rfl ?_
  refine v_cv rfl rfl rfl rfl (by decide) ⟨⟨rfl, rfl⟩, by decide, rfl⟩ (Nat.le_of_ble_eq_true rfl) (Nat.le_of_ble_eq_true rfl) (s_260 hI_2 (fun c_5 y_8 hI_6 hF_7 hy_8 => ?_))
  refine bk_inl ?_
  refine q_pop rfl rfl ?_
  refine q_goto (t := 1844) rfl (by decide) ?_
  refine Wp_ls [(4, vi (i0 : Int)), (3, .ref 67), (2, .ref 41), (1, .ref 0), (0, .ref a_SC)] (lsub_cons rfl (lsub_cons rfl (lsub_cons rfl (lsub_cons rfl (lsub_cons rfl lsub_nil))))) ?_
  exact K P Q c_5 0 (by decide) hI_6

set_option maxRecDepth 100000 in
set_option maxHeartbeats 4000000 in
theorem o_41 {xs : Nat → Int32} {L i0 d nc ns P Q : Nat} {c : ME} {Z : AR → Prop} (hi : i0 + 8 ≤ L) (hL : L ≤ 100000) (hI : Iv 0 (-1) P Q c) (K : ∀ (P2 Q2 : Nat) (c2 : ME) (e : Nat), e ≤ 1 → Iv 0 (-1) P2 Q2 c2 → Wp (a_scr L xs) (d + 90) 296 1844 [(4, vi (i0 : Int)), (3, .ref 67), (2, .ref 41), (1, .ref 0), (0, .ref a_SC)] [] (Wd P2 Q2 P2 P2 c2) (nc + e) (ns + 6 * e) Z) : Wp (a_scr L xs) (d + 90) 296 1794 [(4, vi (i0 : Int)), (3, .ref 67), (2, .ref 41), (1, .ref 0), (0, .ref a_SC)] [] (Wd P Q P P c) nc ns Z := by
  obtain ⟨x1, hx1⟩ : ∃ z, (xs (i0 + 1)).toInt = z := ⟨_, rfl⟩
  have x1r := c_rng (xs (i0 + 1))
  rw [hx1] at x1r
  obtain ⟨x2, hx2⟩ : ∃ z, (xs (i0 + 2)).toInt = z := ⟨_, rfl⟩
  have x2r := c_rng (xs (i0 + 2))
  rw [hx2] at x2r
  obtain ⟨x3, hx3⟩ : ∃ z, (xs (i0 + 3)).toInt = z := ⟨_, rfl⟩
  have x3r := c_rng (xs (i0 + 3))
  rw [hx3] at x3r
  obtain ⟨x4, hx4⟩ : ∃ z, (xs (i0 + 4)).toInt = z := ⟨_, rfl⟩
  have x4r := c_rng (xs (i0 + 4))
  rw [hx4] at x4r
  obtain ⟨x5, hx5⟩ : ∃ z, (xs (i0 + 5)).toInt = z := ⟨_, rfl⟩
  have x5r := c_rng (xs (i0 + 5))
  rw [hx5] at x5r
  obtain ⟨x6, hx6⟩ : ∃ z, (xs (i0 + 6)).toInt = z := ⟨_, rfl⟩
  have x6r := c_rng (xs (i0 + 6))
  rw [hx6] at x6r
  obtain ⟨x7, hx7⟩ : ∃ z, (xs (i0 + 7)).toInt = z := ⟨_, rfl⟩
  have x7r := c_rng (xs (i0 + 7))
  rw [hx7] at x7r
  have hP := iv_P hI
  have hQ := iv_Q hI
  refine q_aload_n rfl rfl ?_
  refine q_aload_n rfl rfl ?_
  refine q_iload rfl rfl ?_
  refine q_iconst rfl ?_
  refine v_iadd (v := (i0 : Int) + 1) rfl (by omega) ?_
  refine v_scr (j := i0 + 1) rfl (by omega) (by omega) hL hx1 ?_
  refine v_cv rfl rfl rfl rfl (by decide) ⟨⟨rfl, rfl⟩, by decide, rfl⟩ (Nat.le_of_ble_eq_true rfl) (Nat.le_of_ble_eq_true rfl) (s_142 (a1 := x1) hI (show (-2147483648) ≤ x1 ∧ x1 ≤ 2147483647 from by omega) (fun y_1 hy_1 => ?_))
  refine bk_inl ?_
  refine q_pop rfl rfl ?_
  refine q_aload_n rfl rfl ?_
  refine q_aload_n rfl rfl ?_
  refine q_iload rfl rfl ?_
  refine q_iconst rfl ?_
  refine v_iadd (v := (i0 : Int) + 1) rfl (by omega) ?_
  refine v_scr (j := i0 + 1) rfl (by omega) (by omega) hL hx1 ?_
  refine v_cv rfl rfl rfl rfl (by decide) ⟨⟨rfl, rfl⟩, by decide, rfl⟩ (Nat.le_of_ble_eq_true rfl) (Nat.le_of_ble_eq_true rfl) (s_261 (a1 := x1) hI (show (-2147483648) ≤ x1 ∧ x1 ≤ 2147483647 from by omega) (fun c_2 y_5 hI_3 hF_4 hy_5 => ?_))
  refine bk_inl ?_
  refine q_pop rfl rfl ?_
  refine q_goto (t := 1844) rfl (by decide) ?_
  refine Wp_ls [(4, vi (i0 : Int)), (3, .ref 67), (2, .ref 41), (1, .ref 0), (0, .ref a_SC)] (lsub_cons rfl (lsub_cons rfl (lsub_cons rfl (lsub_cons rfl (lsub_cons rfl lsub_nil))))) ?_
  exact K P Q c_2 0 (by decide) hI_3

set_option maxRecDepth 100000 in
set_option maxHeartbeats 4000000 in
theorem o_42 {xs : Nat → Int32} {L i0 d nc ns P Q : Nat} {c : ME} {Z : AR → Prop} (hi : i0 + 8 ≤ L) (hL : L ≤ 100000) (hI : Iv 0 (-1) P Q c) (K : ∀ (P2 Q2 : Nat) (c2 : ME) (e : Nat), e ≤ 1 → Iv 0 (-1) P2 Q2 c2 → Wp (a_scr L xs) (d + 90) 296 1844 [(4, vi (i0 : Int)), (3, .ref 67), (2, .ref 41), (1, .ref 0), (0, .ref a_SC)] [] (Wd P2 Q2 P2 P2 c2) (nc + e) (ns + 6 * e) Z) : Wp (a_scr L xs) (d + 90) 296 1819 [(4, vi (i0 : Int)), (3, .ref 67), (2, .ref 41), (1, .ref 0), (0, .ref a_SC)] [] (Wd P Q P P c) nc ns Z := by
  obtain ⟨x1, hx1⟩ : ∃ z, (xs (i0 + 1)).toInt = z := ⟨_, rfl⟩
  have x1r := c_rng (xs (i0 + 1))
  rw [hx1] at x1r
  obtain ⟨x2, hx2⟩ : ∃ z, (xs (i0 + 2)).toInt = z := ⟨_, rfl⟩
  have x2r := c_rng (xs (i0 + 2))
  rw [hx2] at x2r
  obtain ⟨x3, hx3⟩ : ∃ z, (xs (i0 + 3)).toInt = z := ⟨_, rfl⟩
  have x3r := c_rng (xs (i0 + 3))
  rw [hx3] at x3r
  obtain ⟨x4, hx4⟩ : ∃ z, (xs (i0 + 4)).toInt = z := ⟨_, rfl⟩
  have x4r := c_rng (xs (i0 + 4))
  rw [hx4] at x4r
  obtain ⟨x5, hx5⟩ : ∃ z, (xs (i0 + 5)).toInt = z := ⟨_, rfl⟩
  have x5r := c_rng (xs (i0 + 5))
  rw [hx5] at x5r
  obtain ⟨x6, hx6⟩ : ∃ z, (xs (i0 + 6)).toInt = z := ⟨_, rfl⟩
  have x6r := c_rng (xs (i0 + 6))
  rw [hx6] at x6r
  obtain ⟨x7, hx7⟩ : ∃ z, (xs (i0 + 7)).toInt = z := ⟨_, rfl⟩
  have x7r := c_rng (xs (i0 + 7))
  rw [hx7] at x7r
  have hP := iv_P hI
  have hQ := iv_Q hI
  refine q_aload_n rfl rfl ?_
  refine q_aload_n rfl rfl ?_
  refine q_iload rfl rfl ?_
  refine q_iconst rfl ?_
  refine v_iadd (v := (i0 : Int) + 1) rfl (by omega) ?_
  refine v_scr (j := i0 + 1) rfl (by omega) (by omega) hL hx1 ?_
  refine v_cv rfl rfl rfl rfl (by decide) ⟨⟨rfl, rfl⟩, by decide, rfl⟩ (Nat.le_of_ble_eq_true rfl) (Nat.le_of_ble_eq_true rfl) (s_143 (a1 := x1) hI (show (-2147483648) ≤ x1 ∧ x1 ≤ 2147483647 from by omega) (fun y_1 hy_1 => ?_))
  refine bk_inl ?_
  refine q_pop rfl rfl ?_
  refine q_aload_n rfl rfl ?_
  refine q_aload_n rfl rfl ?_
  refine q_iload rfl rfl ?_
  refine q_iconst rfl ?_
  refine v_iadd (v := (i0 : Int) + 1) rfl (by omega) ?_
  refine v_scr (j := i0 + 1) rfl (by omega) (by omega) hL hx1 ?_
  refine v_cv rfl rfl rfl rfl (by decide) ⟨⟨rfl, rfl⟩, by decide, rfl⟩ (Nat.le_of_ble_eq_true rfl) (Nat.le_of_ble_eq_true rfl) (s_262 (a1 := x1) hI (show (-2147483648) ≤ x1 ∧ x1 ≤ 2147483647 from by omega) (fun c_2 y_5 hI_3 hF_4 hy_5 => ?_))
  refine bk_inl ?_
  refine q_pop rfl rfl ?_
  refine q_goto (t := 1844) rfl (by decide) ?_
  refine Wp_ls [(4, vi (i0 : Int)), (3, .ref 67), (2, .ref 41), (1, .ref 0), (0, .ref a_SC)] (lsub_cons rfl (lsub_cons rfl (lsub_cons rfl (lsub_cons rfl (lsub_cons rfl lsub_nil))))) ?_
  exact K P Q c_2 0 (by decide) hI_3

